section ZYS
variable {H k : Nat} {ln : Nat → Nat} {pr : Nat → Bool} {no pg li us lo fi : Nat → Int32} {P K T : Int32}
theorem yok_no (hk : k < 24) (hp : pr k = false) (h : YOK H ln pr k (no, pg, li, us, lo, fi, P, K, T)) : YOK H ln pr (k + 1) (upd no k 0, upd pg k (-1), upd li k (-1), us, lo, fi, P, K, T) := by
  obtain ⟨h1, h2, h3, h4, h5, h6⟩ := h
  obtain ⟨a, b, c⟩ := zlay_no (H := H) (ln := ln) hp
  have g1 : zPg H ln pr k = -1 := by unfold zPg; simp [hp]
  have g2 : zLi H ln pr k = -1 := by unfold zLi; simp [hp]
  have g3 : zNo_ H ln pr k = 0 := by unfold zNo_; simp [hp]
  have gn : ∀ p : Nat, p < 2147483648 → ¬ zPg H ln pr k = Int32.ofNat p := fun p hp2 hq => by
    rw [g1] at hq
    have h5 := congrArg Int32.toInt hq
    rw [n_ti hp2] at h5
    have h6 : (-1 : Int32).toInt = -1 := rfl
    omega
  have hP := (zP_le H ln pr k).1
  refine ⟨fun i hi => ?_, fun p hp2 => ?_, fun hq => ?_, ?_, ?_, ?_⟩
  · by_cases e : i = k
    · subst e
      exact ⟨by rw [g3]; exact upd_same, by rw [g1]; exact upd_same, by rw [g2]; exact upd_same⟩
    · obtain ⟨x1, x2, x3⟩ := h1 i (by omega)
      exact ⟨(upd_ne e).trans x1, (upd_ne e).trans x2, (upd_ne e).trans x3⟩
  · rw [a] at hp2
    obtain ⟨x1, x2, i, x3, x4⟩ := h2 p hp2
    refine ⟨?_, ?_, i, by omega, x4⟩
    · rw [zsum_end, if_neg (gn p (by omega)), Int32.add_zero]; exact x1
    · rw [zsum_end, if_neg (gn p (by omega)), Int32.add_zero]; exact x2
  · rw [a] at hq ⊢
    rw [b]
    exact h3 hq
  · rw [a]; exact h4
  · rw [c]; exact h5
  · rw [zsum_end, hp, if_neg (by simp), Int32.add_zero]; exact h6
theorem yok_new (hk : k < 24) (hp : pr k = true) (hc : zP H ln pr k = 0 ∨ H < zUs H ln pr k + ln k) (h : YOK H ln pr k (no, pg, li, us, lo, fi, P, K, T)) :
    YOK H ln pr (k + 1) (upd no k (K + 1), upd pg k (Int32.ofNat (zP H ln pr k)), upd li k 0, upd (upd us (zP H ln pr k) 0) (zP H ln pr k) (0 + Int32.ofNat (ln k)), upd (upd lo (zP H ln pr k) 0) (zP H ln pr k) (0 + 1), upd fi (zP H ln pr k) (Int32.ofNat k), Int32.ofNat (zP H ln pr k + 1), K + 1, T + Int32.ofNat (ln k)) := by
  obtain ⟨h1, h2, h3, h4, h5, h6⟩ := h
  obtain ⟨a, b, c⟩ := zlay_new hp hc
  have hP := (zP_le H ln pr k).1
  have g1 : zPg H ln pr k = Int32.ofNat (zP H ln pr k) := by unfold zPg; rw [if_pos hp, a]; rfl
  have g2 : zLi H ln pr k = 0 := by unfold zLi; rw [if_pos hp, b, Nat.sub_self]; rfl
  have g3 : zNo_ H ln pr k = K + 1 := by unfold zNo_; rw [if_pos hp, c, show K = Int32.ofNat (zK H ln pr k) from h5, n_s]
  have old : ∀ i, i < k → ¬ zPg H ln pr i = Int32.ofNat (zP H ln pr k) := fun i hi hq => by
    have := zPg_lt hi (by omega) (by omega) hq
    omega
  have sum0 : ∀ v : Nat → Int32, zsum (fun i => if zPg H ln pr i = Int32.ofNat (zP H ln pr k) then v i else 0) 0 k = 0 := fun v => by
    have : ∀ m s : Nat, s + m ≤ k → zsum (fun i => if zPg H ln pr i = Int32.ofNat (zP H ln pr k) then v i else 0) s m = 0 := by
      intro m
      induction m with
      | zero => intro s _; rfl
      | succ m ih => intro s hs; unfold zsum; rw [if_neg (old s (by omega)), ih (s + 1) (by omega), Int32.add_zero]
    exact this k 0 (by omega)
  refine ⟨fun i hi => ?_, fun p hp2 => ?_, fun hq => ?_, ?_, ?_, ?_⟩
  · by_cases e : i = k
    · subst e
      exact ⟨by rw [g3]; exact upd_same, by rw [g1]; exact upd_same, by rw [g2]; exact upd_same⟩
    · obtain ⟨x1, x2, x3⟩ := h1 i (by omega)
      exact ⟨(upd_ne e).trans x1, (upd_ne e).trans x2, (upd_ne e).trans x3⟩
  · by_cases e : p = zP H ln pr k
    · subst e
      refine ⟨?_, ?_, k, by omega, upd_same, g1, old⟩
      · rw [zsum_end, sum0, if_pos g1]; exact upd_same
      · rw [zsum_end, sum0, if_pos g1]; exact upd_same
    · have hne : ¬ zPg H ln pr k = Int32.ofNat p := fun hq => by
        rw [g1, n_eq (by omega) (by omega)] at hq
        exact e hq.symm
      obtain ⟨x1, x2, i, x3, x4, x5⟩ := h2 p (by omega)
      refine ⟨?_, ?_, i, by omega, (upd_ne e).trans x4, x5⟩
      · rw [zsum_end, if_neg hne, Int32.add_zero]; exact ((upd_ne e).trans (upd_ne e)).trans x1
      · rw [zsum_end, if_neg hne, Int32.add_zero]; exact ((upd_ne e).trans (upd_ne e)).trans x2
  · rw [a, b, Nat.add_sub_cancel]
    exact upd_same.trans (Int32.zero_add _)
  · rw [a]
  · rw [c]
    show K + 1 = Int32.ofNat (zK H ln pr k + 1)
    rw [show K = Int32.ofNat (zK H ln pr k) from h5, n_s]
  · rw [zsum_end, if_pos hp]
    exact congrArg (· + Int32.ofNat (ln k)) h6
end ZYS
