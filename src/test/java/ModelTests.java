import java.lang.reflect.InvocationTargetException;
import java.lang.reflect.Method;
import java.lang.reflect.Modifier;
import java.util.ArrayList;
import java.util.Arrays;
import java.util.Comparator;
import java.util.List;
import java.util.Random;

/** Runs of random calls (with written-out seeds), each answered by LotSheet and by Model. */
public final class ModelTests {
    private static final int[] EXTREMES = {Integer.MIN_VALUE, Integer.MAX_VALUE, -1, -2, 255, 256, 257, 10000, 9999};

    private final Check check = new Check();
    private final List<Method> methods = new ArrayList<>();

    public static void main(String[] args) {
        new ModelTests().all();
    }

    private void all() {
        for (Method m : LotSheet.class.getDeclaredMethods()) {
            if (Modifier.isPublic(m.getModifiers())) {
                methods.add(m);
            }
        }
        methods.sort(Comparator.comparing(Method::getName));
        for (int[] kind : new int[][] {{0, 400}, {1, 400}, {2, 200}, {3, 120}}) {
            check.test("random runs of kind " + kind[0], () -> {
                for (int seed = 0; seed < kind[1]; seed++) {
                    run(kind[0], seed);
                }
            });
        }
        check.end();
    }

    /** Kinds: 0 small bills, 1 tight pages, 2 bad texts and wrong arguments, 3 as many lots as can be. */
    private void run(int kind, int seed) throws Exception {
        Random random = new Random(1000003L * kind + seed);
        LotSheet sheet = new LotSheet();
        Model model = new Model();
        StringBuilder told = new StringBuilder();
        int calls = 0;
        while (calls < 480) {
            if (calls == 0 || random.nextInt(kind == 2 ? 6 : 60) == 0) {
                String text = text(kind, random);
                int[] w = Sheets.words(text);
                for (int i = 0; i < w.length; i += 5) {
                    calls++;
                    compare(sheet, model, method("append"), Arrays.copyOfRange(w, i, i + 5), told);
                }
                int length = random.nextInt(10) == 0 ? random.nextInt(510) - 3 : text.length();
                compare(sheet, model, method("load"), new int[] {length}, told);
                calls++;
            } else {
                Method m = methods.get(random.nextInt(methods.size()));
                compare(sheet, model, m, arguments(kind, m, random, model), told);
                calls++;
            }
            if (random.nextInt(4) == 0) {
                compare(sheet, model, method("checksum"), new int[0], told);
                calls++;
            }
            if (told.length() == 0) {
                return;
            }
        }
    }

    private Method method(String name) {
        return methods.stream().filter(m -> m.getName().equals(name)).findFirst().get();
    }

    private void compare(LotSheet sheet, Model model, Method m, int[] arguments, StringBuilder told) throws Exception {
        Object[] boxed = Arrays.stream(arguments).boxed().toArray();
        Object got = answer(sheet, m, boxed);
        Object due = answer(model, Model.class.getMethod(m.getName(), m.getParameterTypes()), boxed);
        told.append(m.getName()).append(Arrays.toString(arguments)).append(" -> ").append(due).append('\n');
        if (!got.equals(due)) {
            check.complain("answered " + got + ", due is the last of\n" + told);
            told.setLength(0);
        }
    }

    private static Object answer(Object target, Method m, Object[] arguments) throws Exception {
        try {
            return m.invoke(target, arguments);
        } catch (InvocationTargetException e) {
            return e.getCause().getClass().getName();
        }
    }

    private static int[] arguments(int kind, Method m, Random random, Model model) {
        int n = m.getParameterCount();
        int[] r = new int[n];
        int lots = model.state(1);
        int choices = 1 << model.state(4);
        for (int i = 0; i < n; i++) {
            int most = 12;
            String name = m.getName();
            if (i == 0) {
                most = switch (name) {
                    case "lot", "pays", "withdraw", "restore", "add", "numbered", "dearest" -> lots + 1;
                    case "page", "standing" -> model.state(6);
                    case "choice", "carry" -> choices;
                    case "different" -> 8;
                    case "through" -> 120;
                    case "setCost" -> 5;
                    case "append", "load" -> 500;
                    default -> 12;
                };
            } else {
                most = switch (name) {
                    case "standing" -> model.state(0);
                    case "setCost" -> 100;
                    case "choice" -> 7;
                    case "lot" -> 9;
                    case "page" -> 4;
                    case "seller" -> 3;
                    case "add" -> i == 1 ? 9 : i == 2 ? 300 : 9;
                    default -> 12;
                };
            }
            boolean extreme = random.nextInt(kind == 2 ? 4 : 60) == 0;
            r[i] = extreme ? EXTREMES[random.nextInt(EXTREMES.length)] : random.nextInt(most + 1);
        }
        return r;
    }

    private static String text(int kind, Random random) {
        int height = kind == 1 ? 4 + random.nextInt(4) : 4 + random.nextInt(17);
        StringBuilder text = new StringBuilder("bill ").append(height).append(';');
        int lots = kind == 3 ? 23 + random.nextInt(3) : random.nextInt(kind == 2 ? 9 : 18);
        int different = kind == 3 ? 7 + random.nextInt(2) : random.nextInt(9);
        int costsAt = random.nextInt(2 * lots + 2);
        int slipAt = random.nextInt(2 * lots + 2);
        for (int i = 0; i <= lots; i++) {
            if (i == costsAt) {
                text.append("costs");
                for (int c = 0; c < 5; c++) {
                    text.append(' ').append(random.nextInt(random.nextBoolean() ? 4 : 100));
                }
                text.append(';');
            }
            if (i == slipAt) {
                text.append("slip").append(1 + random.nextInt(9)).append(';');
            }
            if (i < lots) {
                text.append("lot").append(1 + random.nextInt(Math.min(9, height)));
                text.append(' ').append(random.nextInt(random.nextBoolean() ? 10 : 500));
                text.append(' ').append(random.nextInt(10));
                if (different > 0 && random.nextInt(3) < 2) {
                    different--;
                    text.append(random.nextBoolean() ? "out" : "in");
                }
                text.append(';');
            }
        }
        if (kind == 2) {
            for (int n = random.nextInt(4); n > 0; n--) {
                spoil(text, random);
            }
        }
        if (text.length() > 500) {
            text.setLength(500);
        }
        return text.toString();
    }

    private static void spoil(StringBuilder text, Random random) {
        String[] pieces = {" ", "  ", ";", "x", "0", "00", "99999999999999999999", "lot", "costs", "slip 3;", "in",
            "out", "bill", "\n", "\u00ff", "\u00b0", "A", "{", "`", "/", ":", "lot 1 1 1 in;", "costs 0 1 2 3 99;"};
        int at = random.nextInt(text.length());
        switch (random.nextInt(3)) {
            case 0 -> text.insert(at, pieces[random.nextInt(pieces.length)]);
            case 1 -> text.setCharAt(at, pieces[random.nextInt(pieces.length)].charAt(0));
            default -> {
                if (text.length() > 1) {
                    text.deleteCharAt(at);
                }
            }
        }
    }
}
