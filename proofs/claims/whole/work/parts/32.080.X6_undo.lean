def W_X6_undo (cA : Nat → ClassId) (h : Nat → Nat) (m_thrown : Int32) (m_bufferLength : Int32) (m_textLength : Int32) (m_position : Int32) (m_error : Int32) (m_errorAt : Int32) (m_errorOffset : Int32) (m_data : Nat → Int32) (m_history : Nat → Nat → Int32) (m_undoDepth : Int32) (m_numberStart : Int32) (m_seen : Int32) (m_pages : Int32) : va_W := [(h 0, .inr (6, [.int m_thrown, .ref (h 1), .int m_bufferLength, .int m_textLength, .int m_position, .int m_error, .int m_errorAt, .int m_errorOffset, .ref (h 2), .ref (h 3), .ref (h 4), .int m_undoDepth, .int m_numberStart, .int m_seen, .ref (h 13), .ref (h 14), .ref (h 15), .ref (h 16), .int m_pages, .ref (h 17), .ref (h 18), .ref (h 19)])), (h 2, .inl (cA 0, 153, .inl m_data)), (h 4, .inl (cA 4, 8, .inr (.inr (.inr (.inr (zq8 (h 5) (h 6) (h 7) (h 8) (h 9) (h 10) (h 11) (h 12))))))), (h 5, .inl (cA 0, 153, .inl ((m_history 0)))), (h 6, .inl (cA 0, 153, .inl ((m_history 1)))), (h 7, .inl (cA 0, 153, .inl ((m_history 2)))), (h 8, .inl (cA 0, 153, .inl ((m_history 3)))), (h 9, .inl (cA 0, 153, .inl ((m_history 4)))), (h 10, .inl (cA 0, 153, .inl ((m_history 5)))), (h 11, .inl (cA 0, 153, .inl ((m_history 6)))), (h 12, .inl (cA 0, 153, .inl ((m_history 7))))]
def fX6_undo (m_thrown : Int32) (m_data : Nat → Int32) (m_history : Nat → Nat → Int32) (m_undoDepth : Int32) : Option (Int32 × Int32 × (Nat → Int32) × Int32) := if m_undoDepth = (0 : Int32) then fX6_undo_at0 m_thrown m_data m_history else if m_undoDepth = (1 : Int32) then fX6_undo_at1 m_thrown m_data m_history else if m_undoDepth = (2 : Int32) then fX6_undo_at2 m_thrown m_data m_history else if m_undoDepth = (3 : Int32) then fX6_undo_at3 m_thrown m_data m_history else if m_undoDepth = (4 : Int32) then fX6_undo_at4 m_thrown m_data m_history else if m_undoDepth = (5 : Int32) then fX6_undo_at5 m_thrown m_data m_history else if m_undoDepth = (6 : Int32) then fX6_undo_at6 m_thrown m_data m_history else if m_undoDepth = (7 : Int32) then fX6_undo_at7 m_thrown m_data m_history else if m_undoDepth = (8 : Int32) then fX6_undo_at8 m_thrown m_data m_history else none
set_option maxHeartbeats 4000000 in
set_option maxRecDepth 100000 in
theorem kX6_undo (l : Launch) (D : va_G) (cA : Nat → ClassId) (h : Nat → Nat) (m_thrown : Int32) (m_bufferLength : Int32) (m_textLength : Int32) (m_position : Int32) (m_error : Int32) (m_errorAt : Int32) (m_errorOffset : Int32) (m_data : Nat → Int32) (m_history : Nat → Nat → Int32) (m_undoDepth : Int32) (m_numberStart : Int32) (m_seen : Int32) (m_pages : Int32) (u : Int32 × Int32 × (Nat → Int32) × Int32) (hf : fX6_undo m_thrown m_data m_history m_undoDepth = some u) : zMi l yX6_undo wsX6_undo ({ frames := 1, cells := 0, slots := 0, locals := 22 } : Room) D (zTY cA) [.ref (h 0)] (W_X6_undo cA h m_thrown m_bufferLength m_textLength m_position m_error m_errorAt m_errorOffset m_data m_history m_undoDepth m_numberStart m_seen m_pages) (W_X6_undo cA h (u.2.1) m_bufferLength m_textLength m_position m_error m_errorAt m_errorOffset (u.2.2.1) m_history (u.2.2.2) m_numberStart m_seen m_pages) u.1 := by
  by_cases c0 : m_undoDepth = (0 : Int32)
  · subst c0
    exact kX6_undo_at0 l D cA h m_thrown m_bufferLength m_textLength m_position m_error m_errorAt m_errorOffset m_data m_history m_numberStart m_seen m_pages u (o_pos rfl hf)
  replace hf := o_neg c0 hf
  by_cases c1 : m_undoDepth = (1 : Int32)
  · subst c1
    exact kX6_undo_at1 l D cA h m_thrown m_bufferLength m_textLength m_position m_error m_errorAt m_errorOffset m_data m_history m_numberStart m_seen m_pages u (o_pos rfl hf)
  replace hf := o_neg c1 hf
  by_cases c2 : m_undoDepth = (2 : Int32)
  · subst c2
    exact kX6_undo_at2 l D cA h m_thrown m_bufferLength m_textLength m_position m_error m_errorAt m_errorOffset m_data m_history m_numberStart m_seen m_pages u (o_pos rfl hf)
  replace hf := o_neg c2 hf
  by_cases c3 : m_undoDepth = (3 : Int32)
  · subst c3
    exact kX6_undo_at3 l D cA h m_thrown m_bufferLength m_textLength m_position m_error m_errorAt m_errorOffset m_data m_history m_numberStart m_seen m_pages u (o_pos rfl hf)
  replace hf := o_neg c3 hf
  by_cases c4 : m_undoDepth = (4 : Int32)
  · subst c4
    exact kX6_undo_at4 l D cA h m_thrown m_bufferLength m_textLength m_position m_error m_errorAt m_errorOffset m_data m_history m_numberStart m_seen m_pages u (o_pos rfl hf)
  replace hf := o_neg c4 hf
  by_cases c5 : m_undoDepth = (5 : Int32)
  · subst c5
    exact kX6_undo_at5 l D cA h m_thrown m_bufferLength m_textLength m_position m_error m_errorAt m_errorOffset m_data m_history m_numberStart m_seen m_pages u (o_pos rfl hf)
  replace hf := o_neg c5 hf
  by_cases c6 : m_undoDepth = (6 : Int32)
  · subst c6
    exact kX6_undo_at6 l D cA h m_thrown m_bufferLength m_textLength m_position m_error m_errorAt m_errorOffset m_data m_history m_numberStart m_seen m_pages u (o_pos rfl hf)
  replace hf := o_neg c6 hf
  by_cases c7 : m_undoDepth = (7 : Int32)
  · subst c7
    exact kX6_undo_at7 l D cA h m_thrown m_bufferLength m_textLength m_position m_error m_errorAt m_errorOffset m_data m_history m_numberStart m_seen m_pages u (o_pos rfl hf)
  replace hf := o_neg c7 hf
  by_cases c8 : m_undoDepth = (8 : Int32)
  · subst c8
    exact kX6_undo_at8 l D cA h m_thrown m_bufferLength m_textLength m_position m_error m_errorAt m_errorOffset m_data m_history m_numberStart m_seen m_pages u (o_pos rfl hf)
  replace hf := o_neg c8 hf
  exact o_no hf
