/-! ===== the bills ahead of the latest changes, in a row of nine ===== -/
abbrev ZB : Type := Int32 × Int32 × Int32 × (Nat → Int32) × Nat × (Nat → ZL)
def zB00 : ZB := (0, 0, 0, (fun _ => 0), 0, (fun _ => (0, 0, 0, 0, 0, 0)))
def zcons {α : Type} (x : α) (f : Nat → α) : Nat → α
  | 0 => x
  | i + 1 => f i
def zBW (cA : Nat → ClassId) (g : Nat → Nat) (B : ZB) : va_W := (g 0, .inr (6, [.int B.1, .int B.2.1, .int B.2.2.1, .ref (g 1), .ref (g 2)])) :: (g 1, .inl (cA 0, 5, .inl B.2.2.2.1)) :: (g 2, .inl (cA 4, B.2.2.2.2.1, .inr (.inr (.inr (.inr (fun i => some ((fun i => g (i + 3)) i))))))) :: zLs (fun i => g (i + 3)) B.2.2.2.2.1 B.2.2.2.2.2
def zOlf (cA : Nat → ClassId) (G : Nat → Nat → Nat) (old : Nat → ZB) (i0 : Nat) : Nat → va_W
  | 0 => []
  | m + 1 => zBW cA (G i0) (old i0) ++ zOlf cA G old (i0 + 1) m
def zOldF (G : Nat → Nat → Nat) (k : Nat) : Nat → Option Nat := fun i => if i < k then some (G i 0) else none
def zOldH (cA : Nat → ClassId) (a : Nat) (f : Nat → Option Nat) : Nat × va_E := (a, .inl (cA 5, 9, .inr (.inr (.inr (.inr f)))))
def zOld (cA : Nat → ClassId) (a : Nat) (G : Nat → Nat → Nat) (k : Nat) (old : Nat → ZB) : va_W := zOldH cA a (zOldF G k) :: zOlf cA G old 0 k
def zOldX (cA : Nat → ClassId) (a : Nat) (G : Nat → Nat → Nat) (k : Nat) (old : Nat → ZB) (j : Nat) : va_W := zOldH cA a (zOldF G k) :: zOlf cA G old 0 j
theorem zOlf_split (cA : Nat → ClassId) (G : Nat → Nat → Nat) (old : Nat → ZB) : ∀ (j i0 m : Nat), zOlf cA G old i0 (j + m) = zOlf cA G old i0 j ++ zOlf cA G old (i0 + j) m
  | 0, i0, m => by rw [Nat.zero_add]; rfl
  | j + 1, i0, m => by
    rw [show j + 1 + m = (j + m) + 1 from by omega, show i0 + (j + 1) = (i0 + 1) + j from by omega]
    show zBW cA (G i0) (old i0) ++ zOlf cA G old (i0 + 1) (j + m) = (zBW cA (G i0) (old i0) ++ zOlf cA G old (i0 + 1) j) ++ _
    rw [zOlf_split cA G old j (i0 + 1) m, List.append_assoc]
theorem zOlf_ext {cA : Nat → ClassId} {G G' : Nat → Nat → Nat} {old old' : Nat → ZB} : ∀ (m i0 i1 : Nat), (∀ i, i < m → G (i0 + i) = G' (i1 + i) ∧ old (i0 + i) = old' (i1 + i)) → zOlf cA G old i0 m = zOlf cA G' old' i1 m
  | 0, _, _, _ => rfl
  | m + 1, i0, i1, h => by
    have h0 := h 0 (by omega)
    rw [Nat.add_zero, Nat.add_zero] at h0
    show zBW cA (G i0) (old i0) ++ _ = zBW cA (G' i1) (old' i1) ++ _
    rw [h0.1, h0.2, zOlf_ext m (i0 + 1) (i1 + 1) (fun i hi => by
      have := h (i + 1) (by omega)
      rw [show i0 + 1 + i = i0 + (i + 1) from by omega, show i1 + 1 + i = i1 + (i + 1) from by omega]
      exact this)]
theorem zOlf_at (cA : Nat → ClassId) (G : Nat → Nat → Nat) (old : Nat → ZB) : ∀ (m i0 i : Nat), i < m → ∃ x : Nat, (zOlf cA G old i0 m)[x]? = some ((G (i0 + i) 0, .inr (6, [.int (old (i0 + i)).1, .int (old (i0 + i)).2.1, .int (old (i0 + i)).2.2.1, .ref (G (i0 + i) 1), .ref (G (i0 + i) 2)])) : Nat × va_E)
  | 0, _, _, h => absurd h (Nat.not_lt_zero _)
  | m + 1, i0, 0, _ => ⟨0, rfl⟩
  | m + 1, i0, i + 1, h => by
    obtain ⟨x, hx⟩ := zOlf_at cA G old m (i0 + 1) i (by omega)
    refine ⟨(zBW cA (G i0) (old i0)).length + x, ?_⟩
    show (zBW cA (G i0) (old i0) ++ zOlf cA G old (i0 + 1) m)[_]? = _
    rw [List.getElem?_append_right (Nat.le_add_right _ _), Nat.add_sub_cancel_left, hx, show i0 + 1 + i = i0 + (i + 1) from by omega]
theorem zu_oldSplit {cA : Nat → ClassId} {a k j : Nat} {G : Nat → Nat → Nat} {old : Nat → ZB} {Lr : List va_W} (h : j < k) : zU (Lr ++ [zOld cA a G k old]) = zU (Lr ++ [zOldX cA a G k old j, [((G j) 0, .inr (6, [.int (old j).1, .int (old j).2.1, .int (old j).2.2.1, .ref ((G j) 1), .ref ((G j) 2)]))], [((G j) 1, .inl (cA 0, 5, .inl (old j).2.2.2.1))], [((G j) 2, .inl (cA 4, (old j).2.2.2.2.1, .inr (.inr (.inr (.inr (fun i => some ((fun i => (G j) (i + 3)) i)))))))], zLs (fun i => (G j) (i + 3)) (old j).2.2.2.2.1 (old j).2.2.2.2.2, zOlf cA G old (j + 1) (k - j - 1)]) := by
  rw [zU_app, zU_app]
  congr 1
  show zOldH cA a (zOldF G k) :: zOlf cA G old 0 k ++ [] = (zOldH cA a (zOldF G k) :: zOlf cA G old 0 j) ++ _
  obtain ⟨m, rfl⟩ : ∃ m, k = j + (m + 1) := ⟨k - j - 1, by omega⟩
  rw [List.append_nil, zOlf_split cA G old j 0 (m + 1), Nat.zero_add, show j + (m + 1) - j - 1 = m from by omega]
  show _ :: (zOlf cA G old 0 j ++ (zBW cA (G j) (old j) ++ zOlf cA G old (j + 1) m)) = _
  unfold zBW
  simp
section ZOB
variable {p : Program} {l : Launch} {e : Env} {R : Room} {s : State} {m : MethodId} {args : Array Value} {below : List Frame} {meth : Method} {c : Code} {H : Heap} {locs : List Loc} {cells slots : Nat} {Q : State → Prop}
variable {cc : ByteArray} {pc : Nat} {ls : Array Slot} {rest : List Value} {D : va_G} {cA : Nat → ClassId} {A : Nat → Prop} {L L' Lr : List va_W} {a b k : Nat} {G : Nat → Nat → Nat} {old : Nat → ZB}
theorem zu_old0 (Z : zw D (zTY cA) s A (zU L) H locs) (q : Nat) (ha : L[q]? = some [(a, .inl (cA 5, 9, .inr (.inr (.inr (.inr (fun _ => none))))))]) (hw : L.set q (zOld cA a G 0 old) = L') : zw D (zTY cA) s A (zU L') H locs :=
  zu_qext (f' := zOldF G 0) Z q ha (fun i _ => by unfold zOldF; rw [if_neg (Nat.not_lt_zero i)]) hw
theorem zu_aaldOld {j : Nat} {i : Int32} (hx : p.tables.exec = Jvm.exec) (hb : c.code = cc) (Z : zw D (zTY cA) s A (zU L) H locs) (q : Nat) (ha : L[q]? = some (zOld cA a G k old)) (h0 : ¬ i < 0) (hj : i.toNatClampNeg = j) (h9 : j < 9) (hk : j < k) (hdg : decode cc pc = .ok (.aaload, 1))
    (kk : W p l e R s m args below meth c H locs cells slots Q (F0 m (pc + 1) ls (.ref (G j 0) :: rest))) : W p l e R s m args below meth c H locs cells slots Q (F0 m pc ls (.int i :: .ref a :: rest)) := by
  refine z_aald (b := G j 0) (f := zOldF G k) hx hb Z (zpos L q 0) 5 (zU_at L q 0 _ _ ha rfl) rfl rfl (fun h => ?_) ?_ hdg kk
  · rcases h with h | h
    · exact h0 h
    · omega
  · rw [hj]
    unfold zOldF
    rw [if_pos hk]
    rfl
theorem zu_callI5 {y : MethodName} {bytes : ByteArray} {maxL nL index : Nat} {wsc : List Cond} {rm : Room} {Ts : List Cond} {own : String} {tys : List (ClassId × FieldType)} {e0 : va_E} {W1 : (Nat → Nat) → va_W} (hXA : zXA A s s.heap) (S : CallFix p m c cc nL s args Ts own) (hM : zMn l y wsc rm D tys b e0 W1) (cw : CallB R s args own index y bytes maxL none wsc rm rm.cells rm.slots 0 ∧ y.name = "<init>" ∧ (Cond.instanceMethod y).before args s = true) (Z : zw D tys s A (zU (L ++ [[(b, e0)]])) H locs) (hA : ∀ q, s.heap.size ≤ q → A q)
    (hsize : ls.size = nL) (hW : (rest.map fun v => v.category).sum ≤ 8) (hdg : decode cc pc = .ok (.invokespecial index, 3)) (hf : cells + rm.cells ≤ R.cells ∧ slots + rm.slots ≤ R.slots)
    (kk : ∀ (h : Nat → Nat) (H1 : Heap) (locs1 : List Loc), h 0 = b → zw D tys s A (zU (L ++ [W1 h])) H1 locs1 → W p l e R s m args below meth c H1 locs1 (cells + rm.cells) (slots + rm.slots) Q (F0 m (pc + 3) ls rest)) : W p l e R s m args below meth c H locs cells slots Q (F0 m pc ls (.ref b :: rest)) := by
  rw [zU_app] at Z
  refine z_callI (Wp := zU L) hXA S hM cw Z hA hsize hW hdg hf (fun h H1 locs1 eh Z1 => kk h H1 locs1 eh ?_)
  rw [zU_app, show zU [W1 h] = W1 h from by unfold zU; simp]
  exact Z1
theorem zapL {x y : va_W} : (Lr ++ [x, y])[Lr.length]? = some x := by rw [List.getElem?_append_right (Nat.le_refl _), Nat.sub_self]; rfl
/-- the row moves one further, the bill of before comes first -/
theorem zlaw_shift {others : List (Nat × Value)} {gp : Nat → Nat} {Bp : ZB} {nb : va_W} (hx : p.tables.exec = Jvm.exec) (hb : c.code = cL_law) (Z : zw D (zTY cA) s A (zU (Lr ++ [zOld cA a G k old, [(gp 0, .inr (6, [.int Bp.1, .int Bp.2.1, .int Bp.2.2.1, .ref (gp 1), .ref (gp 2)]))], [(gp 1, .inl (cA 0, 5, .inl Bp.2.2.2.1))], [(gp 2, .inl (cA 4, Bp.2.2.2.2.1, .inr (.inr (.inr (.inr (fun i => some ((fun i => gp (i + 3)) i)))))))], zLs (fun i => gp (i + 3)) Bp.2.2.2.2.1 Bp.2.2.2.2.2])) H locs)
    (hl : lv_has ls 21 ((14, .int (8 : Int32)) :: others)) (k7 k10 : Nat) (h7 : others[k7]? = some (7, .ref a)) (h10 : others[k10]? = some (10, .ref (gp 0))) (ho : others.filter (fun q => !(q.1 == 14) && !(q.1 + 1 == 14 && q.2.category == 2)) = others)
    (kk : ∀ (H1 : Heap) (locs1 : List Loc) (ls1 : Array Slot), zw D (zTY cA) s A (zU (Lr ++ [zOld cA a (zcons gp G) (k + 1) (zcons Bp old)])) H1 locs1 → lv_has ls1 21 ((14, .int (0 : Int32)) :: others) → W p l e R s m args below meth c H1 locs1 cells slots Q (F0 m 1089 ls1 [])) : W p l e R s m args below meth c H locs cells slots Q (F0 m 1060 ls []) := by
  have key : ∀ (j : Nat) (f : Nat → Option Nat) (H : Heap) (locs : List Loc) (ls : Array Slot), j ≤ 8 → (∀ i, i < 9 → f i = if j < i then zOldF G k (i - 1) else zOldF G k i) → zw D (zTY cA) s A (zU (Lr ++ [[zOldH cA a f], zOlf cA G old 0 k, zBW cA gp Bp])) H locs → lv_has ls 21 ((14, .int (Int32.ofNat j)) :: others) → W p l e R s m args below meth c H locs cells slots Q (F0 m 1060 ls []) := by
    intro j
    induction j with
    | zero =>
      intro f H locs ls h8 hf Z hl
      refine lv_iload (pc := 1060) hx hb dL_law_1060 (lv_at hl 0 rfl) ?_
      refine lv_if_le (tgt := 1083) (pc := 1062) hx hb dL_law_1062 (by decide) (fun _ => ?_) (fun c9 => absurd c9 (by decide))
      refine lv_aload (pc := 1083) hx hb dL_law_1083 (lv_at hl (k7 + 1) h7) ?_
      refine lv_iconst (v := (0 : Int32)) (pc := 1085) hx hb dL_law_1085 (by decide) ?_
      refine lv_aload (pc := 1086) hx hb dL_law_1086 (lv_at hl (k10 + 1) h10) ?_
      have e9 : zU (Lr ++ [[zOldH cA a f], zOlf cA G old 0 k, zBW cA gp Bp]) = zU (Lr ++ [[zOldH cA a f], zOlf cA G old 0 k ++ zBW cA gp Bp]) := by rw [zU_app, zU_app]; unfold zU; simp
      have hq : (zOlf cA G old 0 k ++ zBW cA gp Bp)[(zOlf cA G old 0 k).length]? = some (gp 0, .inr (6, [.int Bp.1, .int Bp.2.1, .int Bp.2.2.1, .ref (gp 1), .ref (gp 2)])) := by rw [List.getElem?_append_right (Nat.le_refl _), Nat.sub_self]; rfl
      rw [e9] at Z
      refine zu_astq (f := f) (L' := Lr ++ [[zOldH cA a (va_up f (0 : Int32).toNatClampNeg (some (gp 0)))], zOlf cA G old 0 k ++ zBW cA gp Bp]) (pc := 1088) hx hb Z Lr.length 5 (Lr.length + 1) _ 6 zapL rfl (by rw [List.getElem?_append_right (by omega), Nat.add_sub_cancel_left]; rfl) hq rfl (show ¬ ((0 : Int32) < 0 ∨ 9 ≤ (0 : Int32).toNatClampNeg) by decide) dL_law_1088 (by rw [List.set_append_right _ _ (Nat.le_refl _), Nat.sub_self]; rfl) (fun H locs Z => ?_)
      have Z1 : zw D (zTY cA) s A (zU (Lr ++ [[zOldH cA a (zOldF (zcons gp G) (k + 1))], zOlf cA G old 0 k ++ zBW cA gp Bp])) H locs := by
        refine zu_qext (f' := zOldF (zcons gp G) (k + 1)) Z Lr.length zapL (fun i hi => ?_) (by rw [List.set_append_right _ _ (Nat.le_refl _), Nat.sub_self]; rfl)
        show va_up f 0 (some (gp 0)) i = _
        unfold va_up
        by_cases e : i = 0
        · subst e
          rw [if_pos rfl]
          unfold zOldF
          rw [if_pos (Nat.succ_pos k)]
          rfl
        · rw [if_neg e, hf i hi, if_pos (by omega)]
          obtain ⟨i', rfl⟩ : ∃ i', i = i' + 1 := ⟨i - 1, by omega⟩
          unfold zOldF
          rw [Nat.add_sub_cancel]
          by_cases h : i' < k
          · rw [if_pos h, if_pos (by omega)]; rfl
          · rw [if_neg h, if_neg (by omega)]
      have e10 : zU (Lr ++ [[zOldH cA a (zOldF (zcons gp G) (k + 1))], zOlf cA G old 0 k ++ zBW cA gp Bp]) = zU [zU Lr, [zOldH cA a (zOldF (zcons gp G) (k + 1))], zOlf cA G old 0 k, zBW cA gp Bp] := by rw [zU_app]; unfold zU; simp
      rw [e10] at Z1
      have Z2 := zu_sub (L' := [zU Lr, [zOldH cA a (zOldF (zcons gp G) (k + 1))], zBW cA gp Bp, zOlf cA G old 0 k]) Z1 [0, 1, 3, 2] rfl (by decide)
      have e11 : zU [zU Lr, [zOldH cA a (zOldF (zcons gp G) (k + 1))], zBW cA gp Bp, zOlf cA G old 0 k] = zU (Lr ++ [zOld cA a (zcons gp G) (k + 1) (zcons Bp old)]) := by
        rw [zU_app, zOlf_ext (G' := zcons gp G) (old' := zcons Bp old) k 0 1 (fun i hi => ⟨by rw [Nat.zero_add, show 1 + i = i + 1 from by omega]; rfl, by rw [Nat.zero_add, show 1 + i = i + 1 from by omega]; rfl⟩)]
        unfold zU zOld
        show _ ++ (_ ++ (_ ++ (_ ++ []))) = _ ++ ((_ :: (zBW cA gp Bp ++ zOlf cA (zcons gp G) (zcons Bp old) (0 + 1) k)) ++ [])
        simp
      rw [e11] at Z2
      exact kk H locs ls Z2 hl
    | succ j ih =>
      intro f H locs ls h8 hf Z hl
      have ej := (z_ofN (show j ≤ 64 by omega)).2
      have ej1 := (z_ofN (show j + 1 ≤ 64 by omega)).2
      refine lv_iload (pc := 1060) hx hb dL_law_1060 (lv_at hl 0 rfl) ?_
      refine lv_if_le (tgt := 1083) (pc := 1062) hx hb dL_law_1062 (by decide) (fun c9 => absurd ((z_leN (b := 0) (show j + 1 ≤ 64 by omega) (by omega)).mp c9) (by omega)) (fun _ => ?_)
      refine lv_aload (pc := 1065) hx hb dL_law_1065 (lv_at hl (k7 + 1) h7) ?_
      refine lv_iload (pc := 1067) hx hb dL_law_1067 (lv_at hl 0 rfl) ?_
      refine lv_aload (pc := 1069) hx hb dL_law_1069 (lv_at hl (k7 + 1) h7) ?_
      refine lv_iload (pc := 1071) hx hb dL_law_1071 (lv_at hl 0 rfl) ?_
      refine lv_iconst (v := (1 : Int32)) (pc := 1073) hx hb dL_law_1073 (by decide) ?_
      refine lv_isub (pc := 1074) hx hb dL_law_1074 ?_
      rw [show (Int32.ofNat (j + 1) - (1 : Int32)) = Int32.ofNat j from by rw [← z_sT]; simp]
      have hfj : f j = zOldF G k j := by rw [hf j (by omega), if_neg (by omega)]
      have hin1 : vp_in (Int32.ofNat (j + 1)) 9 := z_inK (by omega) (by omega)
      have back : ∀ (H : Heap) (locs : List Loc), zw D (zTY cA) s A (zU (Lr ++ [[zOldH cA a (va_up f (j + 1) (zOldF G k j))], zOlf cA G old 0 k, zBW cA gp Bp])) H locs → W p l e R s m args below meth c H locs cells slots Q (F0 m 1077 ls []) := by
        intro H locs Z
        refine lv_iinc (v := Int32.ofNat j) (lv' := (14, .int (Int32.ofNat j)) :: others) (pc := 1077) hx hb dL_law_1077 hl (k := 0) rfl (by rw [← z_sT]; show Int32.ofNat j + 1 + (-1 : Int32) = _; rw [Int32.add_assoc, show (1 : Int32) + (-1 : Int32) = 0 from by decide, Int32.add_zero]) (by decide) (by show _ :: others.filter _ = _; rw [ho]) (fun ls hl => ?_)
        refine lv_goto (tgt := 1060) (pc := 1080) hx hb dL_law_1080 (by decide) ?_
        refine ih (va_up f (j + 1) (zOldF G k j)) H locs ls (by omega) (fun i hi => ?_) Z hl
        unfold va_up
        by_cases e : i = j + 1
        · subst e
          rw [if_pos rfl, if_pos (by omega), Nat.add_sub_cancel]
        · rw [if_neg e, hf i hi]
          by_cases h : j < i
          · rw [if_pos h, if_pos (by omega)]
          · rw [if_neg h, if_neg (by omega)]
      by_cases hk : j < k
      · have hv : f j = some (G j 0) := by rw [hfj]; unfold zOldF; rw [if_pos hk]
        obtain ⟨x, hxx⟩ := zOlf_at cA G old k 0 j hk
        rw [Nat.zero_add] at hxx
        refine zu_aald (b := G j 0) (pc := 1075) hx hb Z Lr.length 5 (by rw [List.getElem?_append_right (Nat.le_refl _), Nat.sub_self]; rfl) rfl rfl (z_inK (by omega) (by omega)) (by rw [ej, hv]; rfl) dL_law_1075 ?_
        refine zu_astq (f := f) (L' := Lr ++ [[zOldH cA a (va_up f (Int32.ofNat (j + 1)).toNatClampNeg (some (G j 0)))], zOlf cA G old 0 k, zBW cA gp Bp]) (pc := 1076) hx hb Z Lr.length 5 (Lr.length + 1) x 6 (by rw [List.getElem?_append_right (Nat.le_refl _), Nat.sub_self]; rfl) rfl (by rw [List.getElem?_append_right (by omega), Nat.add_sub_cancel_left]; rfl) hxx rfl hin1 dL_law_1076 (by rw [List.set_append_right _ _ (Nat.le_refl _), Nat.sub_self]; rfl) (fun H locs Z => ?_)
        rw [ej1, ← hv, hfj] at Z
        exact back H locs Z
      · have hv : f j = none := by rw [hfj]; unfold zOldF; rw [if_neg hk]
        refine zu_aaldN (pc := 1075) hx hb Z Lr.length 5 (by rw [List.getElem?_append_right (Nat.le_refl _), Nat.sub_self]; rfl) rfl rfl (z_inK (by omega) (by omega)) (by rw [ej, hv]) dL_law_1075 ?_
        refine zu_astqN (f := f) (L' := Lr ++ [[zOldH cA a (va_up f (Int32.ofNat (j + 1)).toNatClampNeg none)], zOlf cA G old 0 k, zBW cA gp Bp]) (pc := 1076) hx hb Z Lr.length 5 (by rw [List.getElem?_append_right (Nat.le_refl _), Nat.sub_self]; rfl) rfl hin1 dL_law_1076 (by rw [List.set_append_right _ _ (Nat.le_refl _), Nat.sub_self]; rfl) (fun H locs Z => ?_)
        rw [ej1, ← hv, hfj] at Z
        exact back H locs Z
  have e9 : zU (Lr ++ [zOld cA a G k old, [(gp 0, .inr (6, [.int Bp.1, .int Bp.2.1, .int Bp.2.2.1, .ref (gp 1), .ref (gp 2)]))], [(gp 1, .inl (cA 0, 5, .inl Bp.2.2.2.1))], [(gp 2, .inl (cA 4, Bp.2.2.2.2.1, .inr (.inr (.inr (.inr (fun i => some ((fun i => gp (i + 3)) i)))))))], zLs (fun i => gp (i + 3)) Bp.2.2.2.2.1 Bp.2.2.2.2.2]) = zU (Lr ++ [[zOldH cA a (zOldF G k)], zOlf cA G old 0 k, zBW cA gp Bp]) := by
    rw [zU_app, zU_app]
    unfold zU zOld zBW
    simp
  rw [e9] at Z
  exact key 8 (zOldF G k) H locs ls (Nat.le_refl _) (fun i hi => by rw [if_neg (by omega)]) Z hl
end ZOB
theorem z_out7 {x : Int32} (c0 : ¬ x = (0 : Int32)) (c1 : ¬ x = (1 : Int32)) (c2 : ¬ x = (2 : Int32)) (c3 : ¬ x = (3 : Int32)) (c4 : ¬ x = (4 : Int32)) (c5 : ¬ x = (5 : Int32)) (c6 : ¬ x = (6 : Int32)) : x.toInt < 0 ∨ 6 < x.toInt := by
  have h4 := lv_neT (a := 4) c4 (by decide)
  have h5 := lv_neT (a := 5) c5 (by decide)
  have h6 := lv_neT (a := 6) c6 (by decide)
  rcases z_out4 c0 c1 c2 c3 with h | h
  · exact Or.inl h
  · omega
