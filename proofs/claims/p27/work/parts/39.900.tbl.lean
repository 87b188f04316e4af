def zPiece (k : Nat) : List Cond := match k with
  | 0 => k2_sels lw_privs
  | 1 => tables_1_1
  | 2 => tables_1_2
  | 3 => tables_1_3
  | 4 => tables_1_4
  | _ => tables_1_5
theorem zPiece_in (k : Nat) : ∀ w ∈ zPiece k, w ∈ lw_tbl := by
  intro w hw
  show w ∈ k2_sels lw_privs ++ tables_1
  unfold zPiece at hw
  split at hw
  · exact List.mem_append_left _ hw
  · refine List.mem_append_right _ ?_
    show w ∈ tables_1_1 ++ _
    exact List.mem_append_left _ hw
  · refine List.mem_append_right _ ?_
    show w ∈ tables_1_1 ++ (tables_1_2 ++ _)
    exact List.mem_append_right _ (List.mem_append_left _ hw)
  · refine List.mem_append_right _ ?_
    show w ∈ tables_1_1 ++ (tables_1_2 ++ (tables_1_3 ++ _))
    exact List.mem_append_right _ (List.mem_append_right _ (List.mem_append_left _ hw))
  · refine List.mem_append_right _ ?_
    show w ∈ tables_1_1 ++ (tables_1_2 ++ (tables_1_3 ++ (tables_1_4 ++ _)))
    exact List.mem_append_right _ (List.mem_append_right _ (List.mem_append_right _ (List.mem_append_left _ hw)))
  · refine List.mem_append_right _ ?_
    show w ∈ tables_1_1 ++ (tables_1_2 ++ (tables_1_3 ++ (tables_1_4 ++ tables_1_5)))
    exact List.mem_append_right _ (List.mem_append_right _ (List.mem_append_right _ (List.mem_append_right _ hw)))
theorem z_goodT (ws : List Cond) (ps : List (Nat × Nat)) (hp : ws = ps.filterMap (fun q => (zPiece q.1)[q.2]?)) (h : ws.all goodWord = true) : GoodIn lw_tbl ws := by
  intro w hw
  have h1 := List.all_eq_true.mp h w hw
  rw [hp] at hw
  obtain ⟨q, -, hi⟩ := List.mem_filterMap.mp hw
  exact ⟨zPiece_in q.1 w (List.mem_of_getElem? hi), good_of_word h1⟩
