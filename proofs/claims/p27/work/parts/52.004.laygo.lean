section ZYG
variable {H k : Nat} {ln : Nat → Nat} {pr : Nat → Bool} {no pg li us lo fi : Nat → Int32} {P K T : Int32}
theorem n_m1 {a : Nat} (ha : a < 2147483648) : ¬ Int32.ofNat a = -1 := fun h => by
  have h5 := congrArg Int32.toInt h
  rw [n_ti ha] at h5
  have h6 : (-1 : Int32).toInt = -1 := rfl
  omega
theorem n_m1' {a : Nat} (ha : a < 2147483648) : ¬ -1 = Int32.ofNat a := fun h => n_m1 ha h.symm
theorem yok_go {Q : Nat} (hk : k < 24) (hp : pr k = true) (hQ : zP H ln pr k = Q + 1) (hc : zUs H ln pr k + ln k ≤ H) (h : YOK H ln pr k (no, pg, li, us, lo, fi, P, K, T)) :
    YOK H ln pr (k + 1) (upd no k (K + 1), upd pg k (Int32.ofNat Q), upd li k (us Q), upd us Q (us Q + Int32.ofNat (ln k)), upd lo Q (lo Q + 1), fi, Int32.ofNat (Q + 1), K + 1, T + Int32.ofNat (ln k)) := by
  obtain ⟨h1, h2, h3, h4, h5, h6⟩ := h
  obtain ⟨a, b, c⟩ := zlay_go (H := H) (ln := ln) hp (by omega)
  have hP := (zP_le H ln pr k).1
  have hu : us Q = Int32.ofNat (zUs H ln pr k) := by
    have := h3 (by omega)
    rw [hQ] at this
    exact this
  have g1 : zPg H ln pr k = Int32.ofNat Q := by unfold zPg; rw [if_pos hp, a, hQ]; rfl
  have g2 : zLi H ln pr k = us Q := by unfold zLi; rw [if_pos hp, b, Nat.add_sub_cancel, hu]
  have g3 : zNo_ H ln pr k = K + 1 := by unfold zNo_; rw [if_pos hp, c, show K = Int32.ofNat (zK H ln pr k) from h5, n_s]
  refine ⟨fun i hi => ?_, fun p hp2 => ?_, fun hq => ?_, ?_, ?_, ?_⟩
  · by_cases e : i = k
    · subst e
      exact ⟨by rw [g3]; exact upd_same, by rw [g1]; exact upd_same, by rw [g2]; exact upd_same⟩
    · obtain ⟨x1, x2, x3⟩ := h1 i (by omega)
      exact ⟨(upd_ne e).trans x1, (upd_ne e).trans x2, (upd_ne e).trans x3⟩
  · rw [a] at hp2
    obtain ⟨x1, x2, i, x3, x4, x5⟩ := h2 p hp2
    by_cases e : p = Q
    · subst e
      refine ⟨?_, ?_, i, by omega, x4, x5⟩
      · rw [zsum_end, if_pos g1]
        exact upd_same.trans (congrArg (· + Int32.ofNat (ln k)) x1)
      · rw [zsum_end, if_pos g1]
        exact upd_same.trans (congrArg (· + (1 : Int32)) x2)
    · have hne : ¬ zPg H ln pr k = Int32.ofNat p := fun hq => by
        rw [g1, n_eq (by omega) (by omega)] at hq
        exact e hq.symm
      refine ⟨?_, ?_, i, by omega, x4, x5⟩
      · rw [zsum_end, if_neg hne, Int32.add_zero]; exact (upd_ne e).trans x1
      · rw [zsum_end, if_neg hne, Int32.add_zero]; exact (upd_ne e).trans x2
  · rw [a, b, hQ, Nat.add_sub_cancel]
    refine upd_same.trans ?_
    rw [hu, Int32.ofNat_add]
  · rw [a, hQ]
  · rw [c]
    show K + 1 = Int32.ofNat (zK H ln pr k + 1)
    rw [show K = Int32.ofNat (zK H ln pr k) from h5, n_s]
  · rw [zsum_end, if_pos hp]
    exact congrArg (· + Int32.ofNat (ln k)) h6
end ZYG
