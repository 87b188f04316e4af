/-! ===== what holds between the calls ===== -/
def IV (t : ZT) (b o : TB) (hi : ZH) (y : ZY) (c : ZC) (eo : Int32) (m : ZM) : Prop := TV t.1 t.2.2.1 m.2.1 m.2.2.1 ∧ BO o.2.2.2.2.2.2.2.2.1 o.2.2.2.2.2.2.2.2.2.1 o.2.2.2.2.2.2.2.2.2.2 ∧ HV hi.1 hi.2.1 hi.2.2 m.2.2.2.2.2.2.2.2.2.2.1 m.2.2.2.2.2.2.2.2.2.2.2.1 ∧ SV b m.2.2.2.2.2.2.2.2.1 y c.1 c.2.2.1 c.2.2.2.2.2.2.1 c.2.2.2.2.2.2.2 ∧ eo = m.2.2.2.2.2.2.2.1
def Inv (S : ZS) : Prop := IV S.1 S.2.1 S.2.2.1 S.2.2.2.1 S.2.2.2.2.1 S.2.2.2.2.2.1 S.2.2.2.2.2.2.1 S.2.2.2.2.2.2.2.1
theorem o_bS {α β : Type} {x : Option α} {v : α} {F : α → Option β} (e : x = some v) : o_bind x F = F v := by rw [e]; rfl
theorem SV_elim {hh cc rr ac : Int32} {co li es se p w s d : Nat → Int32} {y : ZY} {lots : Nat → Int32} {dc : Int32} {prices : Nat → Int32} {priced : Int32} (h : SV (hh, cc, rr, ac, co, li, es, se, p, w, s) d y lots dc prices priced) : ∃ H n m ln pr wa sl, NW H n m ln pr wa ∧ BV H n m ln pr wa sl hh cc rr li p w s ∧ MV H n m ln pr wa sl ac co es se d ∧ YOK H ln pr n y ∧ CV n pr wa lots dc ∧ PV H n m ln pr wa sl co prices priced := h
theorem SV_intro {hh cc rr ac : Int32} {co li es se p w s d : Nat → Int32} {y : ZY} {lots : Nat → Int32} {dc : Int32} {prices : Nat → Int32} {priced : Int32} {H n m : Nat} {ln : Nat → Nat} {pr wa sl : Nat → Bool} (h1 : NW H n m ln pr wa) (h2 : BV H n m ln pr wa sl hh cc rr li p w s) (h3 : MV H n m ln pr wa sl ac co es se d) (h4 : YOK H ln pr n y) (h5 : CV n pr wa lots dc) (h6 : PV H n m ln pr wa sl co prices priced) : SV (hh, cc, rr, ac, co, li, es, se, p, w, s) d y lots dc prices priced := ⟨H, n, m, ln, pr, wa, sl, h1, h2, h3, h4, h5, h6⟩
set_option maxHeartbeats 4000000 in
set_option maxRecDepth 100000 in
theorem t_0 (x1 x2 x3 x4 x5 : Int32) (S : ZS) (h : Inv S) : ∃ S1, fT0 x1 x2 x3 x4 x5 S = some S1 ∧ Inv S1 := by
  obtain ⟨⟨t_size, t_errorAt, t_bytes, t_length, t_at, t_error, t_costsRead, t_slipRead⟩, ⟨b_height, b_count, b_room, b_account, b_costs, b_lines, b_estimates, b_sellers, b_printed, b_wanted, b_slipped⟩, ⟨o_height, o_count, o_room, o_account, o_costs, o_lines, o_estimates, o_sellers, o_printed, o_wanted, o_slipped⟩, ⟨hi_past, hi_next, hi_kept⟩, ⟨y_numberOf, y_pageOf, y_lineOf, y_usedOn, y_lotsOn, y_firstOn, y_pages, y_printedLots, y_printedLines⟩, ⟨c_lots, c_figures, c_count, ⟨v_numberOf, v_pageOf, v_lineOf, v_usedOn, v_lotsOn, v_firstOn, v_pages, v_printedLots, v_printedLines⟩, c_printedBehind, c_changedOn, c_prices, c_priced⟩, x_latestErrorOffset, ⟨m_thrown, m_buffer, m_bufferLength, m_textLength, m_position, m_error, m_errorAt, m_errorOffset, m_data, m_draft, m_history, m_undoDepth, m_numberStart, m_seen, m_numberOf, m_pageOf, m_lineOf, m_stands, m_pages, m_before, m_told, m_wasPrinted⟩, told⟩ := S
  obtain ⟨i1, i2, i3, i4, i5⟩ := h
  have i1 : TV t_size t_bytes m_buffer m_bufferLength := i1
  have i2 : BO o_printed o_wanted o_slipped := i2
  have i3 : HV hi_past hi_next hi_kept m_history m_undoDepth := i3
  have i4 : SV (b_height, b_count, b_room, b_account, b_costs, b_lines, b_estimates, b_sellers, b_printed, b_wanted, b_slipped) m_data (y_numberOf, y_pageOf, y_lineOf, y_usedOn, y_lotsOn, y_firstOn, y_pages, y_printedLots, y_printedLines) c_lots c_count c_prices c_priced := i4
  have i5 : x_latestErrorOffset = m_errorOffset := i5
  obtain ⟨r0, r1, r2, r3, r4, e, k⟩ := s_0 x1 x2 x3 x4 x5 m_thrown i1
  refine ⟨_, by unfold fT0; exact o_bS e, k, i2, i3, i4, i5⟩
set_option maxHeartbeats 4000000 in
set_option maxRecDepth 100000 in
theorem t_1 (x1 : Int32) (S : ZS) (h : Inv S) : ∃ S1, fT1 x1 S = some S1 ∧ Inv S1 := by
  obtain ⟨⟨t_size, t_errorAt, t_bytes, t_length, t_at, t_error, t_costsRead, t_slipRead⟩, ⟨b_height, b_count, b_room, b_account, b_costs, b_lines, b_estimates, b_sellers, b_printed, b_wanted, b_slipped⟩, ⟨o_height, o_count, o_room, o_account, o_costs, o_lines, o_estimates, o_sellers, o_printed, o_wanted, o_slipped⟩, ⟨hi_past, hi_next, hi_kept⟩, ⟨y_numberOf, y_pageOf, y_lineOf, y_usedOn, y_lotsOn, y_firstOn, y_pages, y_printedLots, y_printedLines⟩, ⟨c_lots, c_figures, c_count, ⟨v_numberOf, v_pageOf, v_lineOf, v_usedOn, v_lotsOn, v_firstOn, v_pages, v_printedLots, v_printedLines⟩, c_printedBehind, c_changedOn, c_prices, c_priced⟩, x_latestErrorOffset, ⟨m_thrown, m_buffer, m_bufferLength, m_textLength, m_position, m_error, m_errorAt, m_errorOffset, m_data, m_draft, m_history, m_undoDepth, m_numberStart, m_seen, m_numberOf, m_pageOf, m_lineOf, m_stands, m_pages, m_before, m_told, m_wasPrinted⟩, told⟩ := S
  obtain ⟨i1, i2, i3, i4, i5⟩ := h
  have i1 : TV t_size t_bytes m_buffer m_bufferLength := i1
  have i2 : BO o_printed o_wanted o_slipped := i2
  have i3 : HV hi_past hi_next hi_kept m_history m_undoDepth := i3
  have i4 : SV (b_height, b_count, b_room, b_account, b_costs, b_lines, b_estimates, b_sellers, b_printed, b_wanted, b_slipped) m_data (y_numberOf, y_pageOf, y_lineOf, y_usedOn, y_lotsOn, y_firstOn, y_pages, y_printedLots, y_printedLines) c_lots c_count c_prices c_priced := i4
  have i5 : x_latestErrorOffset = m_errorOffset := i5
  obtain ⟨r0, r1, r2, r3, r4, r5, r6, r7, r8, r9, r10, r11, r12, r13, r14, r15, r16, r17, r18, r19, r20, r21, r22, r23, r24, r25, r26, r27, r28, r29, r30, r31, r32, r33, r34, r35, r36, r37, r38, r39, r40, r41, r42, r43, r44, r45, r46, r47, r48, r49, r50, r51, r52, r53, r54, r55, r56, r57, r58, e, k, l, k1, k2, k3⟩ := s_1 x1 m_thrown (size := t_size) (eA := t_errorAt) (len0 := t_length) (at0 := t_at) (er0 := t_error) (cr0 := t_costsRead) (sr0 := t_slipRead) (oh := o_height) (oc := o_count) (orr := o_room) (oa := o_account) (oco := o_costs) (oli := o_lines) (oes := o_estimates) (ose := o_sellers) i4 i3 i1 i2 i5 m_textLength m_position m_error m_errorAt m_draft m_numberStart m_seen told
  refine ⟨_, by unfold fT1; exact o_bS e, k1, k2, l, k, k3⟩
set_option maxHeartbeats 4000000 in
set_option maxRecDepth 100000 in
theorem t_3 (x1 : Int32) (S : ZS) (h : Inv S) : ∃ S1, fT3 x1 S = some S1 ∧ Inv S1 := by
  obtain ⟨⟨t_size, t_errorAt, t_bytes, t_length, t_at, t_error, t_costsRead, t_slipRead⟩, ⟨b_height, b_count, b_room, b_account, b_costs, b_lines, b_estimates, b_sellers, b_printed, b_wanted, b_slipped⟩, ⟨o_height, o_count, o_room, o_account, o_costs, o_lines, o_estimates, o_sellers, o_printed, o_wanted, o_slipped⟩, ⟨hi_past, hi_next, hi_kept⟩, ⟨y_numberOf, y_pageOf, y_lineOf, y_usedOn, y_lotsOn, y_firstOn, y_pages, y_printedLots, y_printedLines⟩, ⟨c_lots, c_figures, c_count, ⟨v_numberOf, v_pageOf, v_lineOf, v_usedOn, v_lotsOn, v_firstOn, v_pages, v_printedLots, v_printedLines⟩, c_printedBehind, c_changedOn, c_prices, c_priced⟩, x_latestErrorOffset, ⟨m_thrown, m_buffer, m_bufferLength, m_textLength, m_position, m_error, m_errorAt, m_errorOffset, m_data, m_draft, m_history, m_undoDepth, m_numberStart, m_seen, m_numberOf, m_pageOf, m_lineOf, m_stands, m_pages, m_before, m_told, m_wasPrinted⟩, told⟩ := S
  obtain ⟨i1, i2, i3, i4, i5⟩ := h
  have i1 : TV t_size t_bytes m_buffer m_bufferLength := i1
  have i2 : BO o_printed o_wanted o_slipped := i2
  have i3 : HV hi_past hi_next hi_kept m_history m_undoDepth := i3
  have i4 : SV (b_height, b_count, b_room, b_account, b_costs, b_lines, b_estimates, b_sellers, b_printed, b_wanted, b_slipped) m_data (y_numberOf, y_pageOf, y_lineOf, y_usedOn, y_lotsOn, y_firstOn, y_pages, y_printedLots, y_printedLines) c_lots c_count c_prices c_priced := i4
  have i5 : x_latestErrorOffset = m_errorOffset := i5
  obtain ⟨H, n, mm, ln, pr, wa, sl, hw, hb, hm, hy, hc, hp⟩ := SV_elim i4
  obtain ⟨r0, r1, r2, r3, r4, r5, r6, e⟩ := s_3 x1 m_thrown hw hb hm hy hc m_numberOf m_pageOf m_lineOf m_stands m_pages told
  refine ⟨_, by unfold fT3; exact o_bS e, i1, i2, i3, i4, i5⟩
set_option maxHeartbeats 4000000 in
set_option maxRecDepth 100000 in
theorem t_4 (x1 x2 : Int32) (S : ZS) (h : Inv S) : ∃ S1, fT4 x1 x2 S = some S1 ∧ Inv S1 := by
  obtain ⟨⟨t_size, t_errorAt, t_bytes, t_length, t_at, t_error, t_costsRead, t_slipRead⟩, ⟨b_height, b_count, b_room, b_account, b_costs, b_lines, b_estimates, b_sellers, b_printed, b_wanted, b_slipped⟩, ⟨o_height, o_count, o_room, o_account, o_costs, o_lines, o_estimates, o_sellers, o_printed, o_wanted, o_slipped⟩, ⟨hi_past, hi_next, hi_kept⟩, ⟨y_numberOf, y_pageOf, y_lineOf, y_usedOn, y_lotsOn, y_firstOn, y_pages, y_printedLots, y_printedLines⟩, ⟨c_lots, c_figures, c_count, ⟨v_numberOf, v_pageOf, v_lineOf, v_usedOn, v_lotsOn, v_firstOn, v_pages, v_printedLots, v_printedLines⟩, c_printedBehind, c_changedOn, c_prices, c_priced⟩, x_latestErrorOffset, ⟨m_thrown, m_buffer, m_bufferLength, m_textLength, m_position, m_error, m_errorAt, m_errorOffset, m_data, m_draft, m_history, m_undoDepth, m_numberStart, m_seen, m_numberOf, m_pageOf, m_lineOf, m_stands, m_pages, m_before, m_told, m_wasPrinted⟩, told⟩ := S
  obtain ⟨i1, i2, i3, i4, i5⟩ := h
  have i1 : TV t_size t_bytes m_buffer m_bufferLength := i1
  have i2 : BO o_printed o_wanted o_slipped := i2
  have i3 : HV hi_past hi_next hi_kept m_history m_undoDepth := i3
  have i4 : SV (b_height, b_count, b_room, b_account, b_costs, b_lines, b_estimates, b_sellers, b_printed, b_wanted, b_slipped) m_data (y_numberOf, y_pageOf, y_lineOf, y_usedOn, y_lotsOn, y_firstOn, y_pages, y_printedLots, y_printedLines) c_lots c_count c_prices c_priced := i4
  have i5 : x_latestErrorOffset = m_errorOffset := i5
  obtain ⟨H, n, mm, ln, pr, wa, sl, hw, hb, hm, hy, hc, hp⟩ := SV_elim i4
  obtain ⟨r0, r1, r2, r3, r4, r5, r6, e⟩ := s_4 x1 x2 m_thrown hw hb hm hy m_numberOf m_pageOf m_lineOf m_stands m_pages told
  refine ⟨_, by unfold fT4; exact o_bS e, i1, i2, i3, i4, i5⟩
set_option maxHeartbeats 4000000 in
set_option maxRecDepth 100000 in
theorem t_5 (x1 x2 : Int32) (S : ZS) (h : Inv S) : ∃ S1, fT5 x1 x2 S = some S1 ∧ Inv S1 := by
  obtain ⟨⟨t_size, t_errorAt, t_bytes, t_length, t_at, t_error, t_costsRead, t_slipRead⟩, ⟨b_height, b_count, b_room, b_account, b_costs, b_lines, b_estimates, b_sellers, b_printed, b_wanted, b_slipped⟩, ⟨o_height, o_count, o_room, o_account, o_costs, o_lines, o_estimates, o_sellers, o_printed, o_wanted, o_slipped⟩, ⟨hi_past, hi_next, hi_kept⟩, ⟨y_numberOf, y_pageOf, y_lineOf, y_usedOn, y_lotsOn, y_firstOn, y_pages, y_printedLots, y_printedLines⟩, ⟨c_lots, c_figures, c_count, ⟨v_numberOf, v_pageOf, v_lineOf, v_usedOn, v_lotsOn, v_firstOn, v_pages, v_printedLots, v_printedLines⟩, c_printedBehind, c_changedOn, c_prices, c_priced⟩, x_latestErrorOffset, ⟨m_thrown, m_buffer, m_bufferLength, m_textLength, m_position, m_error, m_errorAt, m_errorOffset, m_data, m_draft, m_history, m_undoDepth, m_numberStart, m_seen, m_numberOf, m_pageOf, m_lineOf, m_stands, m_pages, m_before, m_told, m_wasPrinted⟩, told⟩ := S
  obtain ⟨i1, i2, i3, i4, i5⟩ := h
  have i1 : TV t_size t_bytes m_buffer m_bufferLength := i1
  have i2 : BO o_printed o_wanted o_slipped := i2
  have i3 : HV hi_past hi_next hi_kept m_history m_undoDepth := i3
  have i4 : SV (b_height, b_count, b_room, b_account, b_costs, b_lines, b_estimates, b_sellers, b_printed, b_wanted, b_slipped) m_data (y_numberOf, y_pageOf, y_lineOf, y_usedOn, y_lotsOn, y_firstOn, y_pages, y_printedLots, y_printedLines) c_lots c_count c_prices c_priced := i4
  have i5 : x_latestErrorOffset = m_errorOffset := i5
  obtain ⟨H, n, mm, ln, pr, wa, sl, hw, hb, hm, hy, hc, hp⟩ := SV_elim i4
  obtain ⟨r0, r1, r2, r3, r4, r5, r6, e⟩ := s_5 x1 x2 m_thrown hw hb hm hy m_numberOf m_pageOf m_lineOf m_stands m_pages told
  refine ⟨_, by unfold fT5; exact o_bS e, i1, i2, i3, i4, i5⟩
set_option maxHeartbeats 4000000 in
set_option maxRecDepth 100000 in
theorem t_6 (x1 x2 : Int32) (S : ZS) (h : Inv S) : ∃ S1, fT6 x1 x2 S = some S1 ∧ Inv S1 := by
  obtain ⟨⟨t_size, t_errorAt, t_bytes, t_length, t_at, t_error, t_costsRead, t_slipRead⟩, ⟨b_height, b_count, b_room, b_account, b_costs, b_lines, b_estimates, b_sellers, b_printed, b_wanted, b_slipped⟩, ⟨o_height, o_count, o_room, o_account, o_costs, o_lines, o_estimates, o_sellers, o_printed, o_wanted, o_slipped⟩, ⟨hi_past, hi_next, hi_kept⟩, ⟨y_numberOf, y_pageOf, y_lineOf, y_usedOn, y_lotsOn, y_firstOn, y_pages, y_printedLots, y_printedLines⟩, ⟨c_lots, c_figures, c_count, ⟨v_numberOf, v_pageOf, v_lineOf, v_usedOn, v_lotsOn, v_firstOn, v_pages, v_printedLots, v_printedLines⟩, c_printedBehind, c_changedOn, c_prices, c_priced⟩, x_latestErrorOffset, ⟨m_thrown, m_buffer, m_bufferLength, m_textLength, m_position, m_error, m_errorAt, m_errorOffset, m_data, m_draft, m_history, m_undoDepth, m_numberStart, m_seen, m_numberOf, m_pageOf, m_lineOf, m_stands, m_pages, m_before, m_told, m_wasPrinted⟩, told⟩ := S
  obtain ⟨i1, i2, i3, i4, i5⟩ := h
  have i1 : TV t_size t_bytes m_buffer m_bufferLength := i1
  have i2 : BO o_printed o_wanted o_slipped := i2
  have i3 : HV hi_past hi_next hi_kept m_history m_undoDepth := i3
  have i4 : SV (b_height, b_count, b_room, b_account, b_costs, b_lines, b_estimates, b_sellers, b_printed, b_wanted, b_slipped) m_data (y_numberOf, y_pageOf, y_lineOf, y_usedOn, y_lotsOn, y_firstOn, y_pages, y_printedLots, y_printedLines) c_lots c_count c_prices c_priced := i4
  have i5 : x_latestErrorOffset = m_errorOffset := i5
  obtain ⟨H, n, mm, ln, pr, wa, sl, hw, hb, hm, hy, hc, hp⟩ := SV_elim i4
  obtain ⟨r0, r1, r2, r3, r4, r5, r6, e⟩ := s_6 x1 x2 m_thrown hw hb hm hy m_numberOf m_pageOf m_lineOf m_stands m_pages told
  refine ⟨_, by unfold fT6; exact o_bS e, i1, i2, i3, i4, i5⟩
set_option maxHeartbeats 4000000 in
set_option maxRecDepth 100000 in
theorem t_7 (x1 : Int32) (S : ZS) (h : Inv S) : ∃ S1, fT7 x1 S = some S1 ∧ Inv S1 := by
  obtain ⟨⟨t_size, t_errorAt, t_bytes, t_length, t_at, t_error, t_costsRead, t_slipRead⟩, ⟨b_height, b_count, b_room, b_account, b_costs, b_lines, b_estimates, b_sellers, b_printed, b_wanted, b_slipped⟩, ⟨o_height, o_count, o_room, o_account, o_costs, o_lines, o_estimates, o_sellers, o_printed, o_wanted, o_slipped⟩, ⟨hi_past, hi_next, hi_kept⟩, ⟨y_numberOf, y_pageOf, y_lineOf, y_usedOn, y_lotsOn, y_firstOn, y_pages, y_printedLots, y_printedLines⟩, ⟨c_lots, c_figures, c_count, ⟨v_numberOf, v_pageOf, v_lineOf, v_usedOn, v_lotsOn, v_firstOn, v_pages, v_printedLots, v_printedLines⟩, c_printedBehind, c_changedOn, c_prices, c_priced⟩, x_latestErrorOffset, ⟨m_thrown, m_buffer, m_bufferLength, m_textLength, m_position, m_error, m_errorAt, m_errorOffset, m_data, m_draft, m_history, m_undoDepth, m_numberStart, m_seen, m_numberOf, m_pageOf, m_lineOf, m_stands, m_pages, m_before, m_told, m_wasPrinted⟩, told⟩ := S
  obtain ⟨i1, i2, i3, i4, i5⟩ := h
  have i1 : TV t_size t_bytes m_buffer m_bufferLength := i1
  have i2 : BO o_printed o_wanted o_slipped := i2
  have i3 : HV hi_past hi_next hi_kept m_history m_undoDepth := i3
  have i4 : SV (b_height, b_count, b_room, b_account, b_costs, b_lines, b_estimates, b_sellers, b_printed, b_wanted, b_slipped) m_data (y_numberOf, y_pageOf, y_lineOf, y_usedOn, y_lotsOn, y_firstOn, y_pages, y_printedLots, y_printedLines) c_lots c_count c_prices c_priced := i4
  have i5 : x_latestErrorOffset = m_errorOffset := i5
  obtain ⟨H, n, mm, ln, pr, wa, sl, hw, hb, hm, hy, hc, hp⟩ := SV_elim i4
  obtain ⟨r0, r1, r2, r3, r4, r5, r6, e⟩ := s_7 x1 m_thrown hw hb hm hy m_numberOf m_pageOf m_lineOf m_stands m_pages told
  refine ⟨_, by unfold fT7; exact o_bS e, i1, i2, i3, i4, i5⟩
set_option maxHeartbeats 4000000 in
set_option maxRecDepth 100000 in
theorem t_8 (x1 : Int32) (S : ZS) (h : Inv S) : ∃ S1, fT8 x1 S = some S1 ∧ Inv S1 := by
  obtain ⟨⟨t_size, t_errorAt, t_bytes, t_length, t_at, t_error, t_costsRead, t_slipRead⟩, ⟨b_height, b_count, b_room, b_account, b_costs, b_lines, b_estimates, b_sellers, b_printed, b_wanted, b_slipped⟩, ⟨o_height, o_count, o_room, o_account, o_costs, o_lines, o_estimates, o_sellers, o_printed, o_wanted, o_slipped⟩, ⟨hi_past, hi_next, hi_kept⟩, ⟨y_numberOf, y_pageOf, y_lineOf, y_usedOn, y_lotsOn, y_firstOn, y_pages, y_printedLots, y_printedLines⟩, ⟨c_lots, c_figures, c_count, ⟨v_numberOf, v_pageOf, v_lineOf, v_usedOn, v_lotsOn, v_firstOn, v_pages, v_printedLots, v_printedLines⟩, c_printedBehind, c_changedOn, c_prices, c_priced⟩, x_latestErrorOffset, ⟨m_thrown, m_buffer, m_bufferLength, m_textLength, m_position, m_error, m_errorAt, m_errorOffset, m_data, m_draft, m_history, m_undoDepth, m_numberStart, m_seen, m_numberOf, m_pageOf, m_lineOf, m_stands, m_pages, m_before, m_told, m_wasPrinted⟩, told⟩ := S
  obtain ⟨i1, i2, i3, i4, i5⟩ := h
  have i1 : TV t_size t_bytes m_buffer m_bufferLength := i1
  have i2 : BO o_printed o_wanted o_slipped := i2
  have i3 : HV hi_past hi_next hi_kept m_history m_undoDepth := i3
  have i4 : SV (b_height, b_count, b_room, b_account, b_costs, b_lines, b_estimates, b_sellers, b_printed, b_wanted, b_slipped) m_data (y_numberOf, y_pageOf, y_lineOf, y_usedOn, y_lotsOn, y_firstOn, y_pages, y_printedLots, y_printedLines) c_lots c_count c_prices c_priced := i4
  have i5 : x_latestErrorOffset = m_errorOffset := i5
  obtain ⟨H, n, mm, ln, pr, wa, sl, hw, hb, hm, hy, hc, hp⟩ := SV_elim i4
  obtain ⟨r0, r1, e⟩ := s_8 x1 m_thrown hw hm hc told
  refine ⟨_, by unfold fT8; exact o_bS e, i1, i2, i3, i4, i5⟩
set_option maxHeartbeats 4000000 in
set_option maxRecDepth 100000 in
theorem t_9 (S : ZS) (h : Inv S) : ∃ S1, fT9 S = some S1 ∧ Inv S1 := by
  obtain ⟨⟨t_size, t_errorAt, t_bytes, t_length, t_at, t_error, t_costsRead, t_slipRead⟩, ⟨b_height, b_count, b_room, b_account, b_costs, b_lines, b_estimates, b_sellers, b_printed, b_wanted, b_slipped⟩, ⟨o_height, o_count, o_room, o_account, o_costs, o_lines, o_estimates, o_sellers, o_printed, o_wanted, o_slipped⟩, ⟨hi_past, hi_next, hi_kept⟩, ⟨y_numberOf, y_pageOf, y_lineOf, y_usedOn, y_lotsOn, y_firstOn, y_pages, y_printedLots, y_printedLines⟩, ⟨c_lots, c_figures, c_count, ⟨v_numberOf, v_pageOf, v_lineOf, v_usedOn, v_lotsOn, v_firstOn, v_pages, v_printedLots, v_printedLines⟩, c_printedBehind, c_changedOn, c_prices, c_priced⟩, x_latestErrorOffset, ⟨m_thrown, m_buffer, m_bufferLength, m_textLength, m_position, m_error, m_errorAt, m_errorOffset, m_data, m_draft, m_history, m_undoDepth, m_numberStart, m_seen, m_numberOf, m_pageOf, m_lineOf, m_stands, m_pages, m_before, m_told, m_wasPrinted⟩, told⟩ := S
  obtain ⟨i1, i2, i3, i4, i5⟩ := h
  have i1 : TV t_size t_bytes m_buffer m_bufferLength := i1
  have i2 : BO o_printed o_wanted o_slipped := i2
  have i3 : HV hi_past hi_next hi_kept m_history m_undoDepth := i3
  have i4 : SV (b_height, b_count, b_room, b_account, b_costs, b_lines, b_estimates, b_sellers, b_printed, b_wanted, b_slipped) m_data (y_numberOf, y_pageOf, y_lineOf, y_usedOn, y_lotsOn, y_firstOn, y_pages, y_printedLots, y_printedLines) c_lots c_count c_prices c_priced := i4
  have i5 : x_latestErrorOffset = m_errorOffset := i5
  obtain ⟨H, n, mm, ln, pr, wa, sl, hw, hb, hm, hy, hc, hp⟩ := SV_elim i4
  obtain ⟨r0, r1, r2, r3, r4, r5, r6, r7, r8, r9, r10, r11, r12, r13, r14, r15, r16, r17, r18, r19, r20, r21, r22, e, k⟩ := s_9 m_thrown hw hb hm hy hc c_figures v_numberOf v_pageOf v_lineOf v_usedOn v_lotsOn v_firstOn v_pages v_printedLots v_printedLines c_printedBehind c_changedOn c_prices c_priced hp m_numberOf m_pageOf m_lineOf m_stands m_pages m_before m_told m_wasPrinted
  refine ⟨_, by unfold fT9; exact o_bS e, i1, i2, i3, SV_intro hw hb hm hy hc k, i5⟩
set_option maxHeartbeats 4000000 in
set_option maxRecDepth 100000 in
theorem t_10 (x1 x2 : Int32) (S : ZS) (h : Inv S) : ∃ S1, fT10 x1 x2 S = some S1 ∧ Inv S1 := by
  obtain ⟨⟨t_size, t_errorAt, t_bytes, t_length, t_at, t_error, t_costsRead, t_slipRead⟩, ⟨b_height, b_count, b_room, b_account, b_costs, b_lines, b_estimates, b_sellers, b_printed, b_wanted, b_slipped⟩, ⟨o_height, o_count, o_room, o_account, o_costs, o_lines, o_estimates, o_sellers, o_printed, o_wanted, o_slipped⟩, ⟨hi_past, hi_next, hi_kept⟩, ⟨y_numberOf, y_pageOf, y_lineOf, y_usedOn, y_lotsOn, y_firstOn, y_pages, y_printedLots, y_printedLines⟩, ⟨c_lots, c_figures, c_count, ⟨v_numberOf, v_pageOf, v_lineOf, v_usedOn, v_lotsOn, v_firstOn, v_pages, v_printedLots, v_printedLines⟩, c_printedBehind, c_changedOn, c_prices, c_priced⟩, x_latestErrorOffset, ⟨m_thrown, m_buffer, m_bufferLength, m_textLength, m_position, m_error, m_errorAt, m_errorOffset, m_data, m_draft, m_history, m_undoDepth, m_numberStart, m_seen, m_numberOf, m_pageOf, m_lineOf, m_stands, m_pages, m_before, m_told, m_wasPrinted⟩, told⟩ := S
  obtain ⟨i1, i2, i3, i4, i5⟩ := h
  have i1 : TV t_size t_bytes m_buffer m_bufferLength := i1
  have i2 : BO o_printed o_wanted o_slipped := i2
  have i3 : HV hi_past hi_next hi_kept m_history m_undoDepth := i3
  have i4 : SV (b_height, b_count, b_room, b_account, b_costs, b_lines, b_estimates, b_sellers, b_printed, b_wanted, b_slipped) m_data (y_numberOf, y_pageOf, y_lineOf, y_usedOn, y_lotsOn, y_firstOn, y_pages, y_printedLots, y_printedLines) c_lots c_count c_prices c_priced := i4
  have i5 : x_latestErrorOffset = m_errorOffset := i5
  obtain ⟨H, n, mm, ln, pr, wa, sl, hw, hb, hm, hy, hc, hp⟩ := SV_elim i4
  obtain ⟨r0, r1, r2, r3, r4, r5, r6, r7, r8, r9, r10, r11, r12, r13, r14, r15, r16, r17, r18, r19, r20, r21, e⟩ := s_10 x1 x2 m_thrown hw hb hm hy hc c_figures v_numberOf v_pageOf v_lineOf v_usedOn v_lotsOn v_firstOn v_pages v_printedLots v_printedLines c_printedBehind c_changedOn m_numberOf m_pageOf m_lineOf m_stands m_pages m_before m_told m_wasPrinted told
  refine ⟨_, by unfold fT10; exact o_bS e, i1, i2, i3, i4, i5⟩
set_option maxHeartbeats 4000000 in
set_option maxRecDepth 100000 in
theorem t_11 (x1 : Int32) (S : ZS) (h : Inv S) : ∃ S1, fT11 x1 S = some S1 ∧ Inv S1 := by
  obtain ⟨⟨t_size, t_errorAt, t_bytes, t_length, t_at, t_error, t_costsRead, t_slipRead⟩, ⟨b_height, b_count, b_room, b_account, b_costs, b_lines, b_estimates, b_sellers, b_printed, b_wanted, b_slipped⟩, ⟨o_height, o_count, o_room, o_account, o_costs, o_lines, o_estimates, o_sellers, o_printed, o_wanted, o_slipped⟩, ⟨hi_past, hi_next, hi_kept⟩, ⟨y_numberOf, y_pageOf, y_lineOf, y_usedOn, y_lotsOn, y_firstOn, y_pages, y_printedLots, y_printedLines⟩, ⟨c_lots, c_figures, c_count, ⟨v_numberOf, v_pageOf, v_lineOf, v_usedOn, v_lotsOn, v_firstOn, v_pages, v_printedLots, v_printedLines⟩, c_printedBehind, c_changedOn, c_prices, c_priced⟩, x_latestErrorOffset, ⟨m_thrown, m_buffer, m_bufferLength, m_textLength, m_position, m_error, m_errorAt, m_errorOffset, m_data, m_draft, m_history, m_undoDepth, m_numberStart, m_seen, m_numberOf, m_pageOf, m_lineOf, m_stands, m_pages, m_before, m_told, m_wasPrinted⟩, told⟩ := S
  obtain ⟨i1, i2, i3, i4, i5⟩ := h
  have i1 : TV t_size t_bytes m_buffer m_bufferLength := i1
  have i2 : BO o_printed o_wanted o_slipped := i2
  have i3 : HV hi_past hi_next hi_kept m_history m_undoDepth := i3
  have i4 : SV (b_height, b_count, b_room, b_account, b_costs, b_lines, b_estimates, b_sellers, b_printed, b_wanted, b_slipped) m_data (y_numberOf, y_pageOf, y_lineOf, y_usedOn, y_lotsOn, y_firstOn, y_pages, y_printedLots, y_printedLines) c_lots c_count c_prices c_priced := i4
  have i5 : x_latestErrorOffset = m_errorOffset := i5
  obtain ⟨H, n, mm, ln, pr, wa, sl, hw, hb, hm, hy, hc, hp⟩ := SV_elim i4
  obtain ⟨r0, r1, r2, r3, r4, r5, r6, r7, r8, r9, r10, r11, r12, r13, r14, r15, r16, r17, r18, r19, r20, r21, r22, r23, e, k⟩ := s_11 x1 m_thrown hw hb hm hy hc c_figures v_numberOf v_pageOf v_lineOf v_usedOn v_lotsOn v_firstOn v_pages v_printedLots v_printedLines c_printedBehind c_changedOn c_prices c_priced hp m_numberOf m_pageOf m_lineOf m_stands m_pages m_before m_told m_wasPrinted told
  refine ⟨_, by unfold fT11; exact o_bS e, i1, i2, i3, SV_intro hw hb hm hy hc k, i5⟩
set_option maxHeartbeats 4000000 in
set_option maxRecDepth 100000 in
theorem t_12 (x1 : Int32) (S : ZS) (h : Inv S) : ∃ S1, fT12 x1 S = some S1 ∧ Inv S1 := by
  obtain ⟨⟨t_size, t_errorAt, t_bytes, t_length, t_at, t_error, t_costsRead, t_slipRead⟩, ⟨b_height, b_count, b_room, b_account, b_costs, b_lines, b_estimates, b_sellers, b_printed, b_wanted, b_slipped⟩, ⟨o_height, o_count, o_room, o_account, o_costs, o_lines, o_estimates, o_sellers, o_printed, o_wanted, o_slipped⟩, ⟨hi_past, hi_next, hi_kept⟩, ⟨y_numberOf, y_pageOf, y_lineOf, y_usedOn, y_lotsOn, y_firstOn, y_pages, y_printedLots, y_printedLines⟩, ⟨c_lots, c_figures, c_count, ⟨v_numberOf, v_pageOf, v_lineOf, v_usedOn, v_lotsOn, v_firstOn, v_pages, v_printedLots, v_printedLines⟩, c_printedBehind, c_changedOn, c_prices, c_priced⟩, x_latestErrorOffset, ⟨m_thrown, m_buffer, m_bufferLength, m_textLength, m_position, m_error, m_errorAt, m_errorOffset, m_data, m_draft, m_history, m_undoDepth, m_numberStart, m_seen, m_numberOf, m_pageOf, m_lineOf, m_stands, m_pages, m_before, m_told, m_wasPrinted⟩, told⟩ := S
  obtain ⟨i1, i2, i3, i4, i5⟩ := h
  have i1 : TV t_size t_bytes m_buffer m_bufferLength := i1
  have i2 : BO o_printed o_wanted o_slipped := i2
  have i3 : HV hi_past hi_next hi_kept m_history m_undoDepth := i3
  have i4 : SV (b_height, b_count, b_room, b_account, b_costs, b_lines, b_estimates, b_sellers, b_printed, b_wanted, b_slipped) m_data (y_numberOf, y_pageOf, y_lineOf, y_usedOn, y_lotsOn, y_firstOn, y_pages, y_printedLots, y_printedLines) c_lots c_count c_prices c_priced := i4
  have i5 : x_latestErrorOffset = m_errorOffset := i5
  obtain ⟨H, n, mm, ln, pr, wa, sl, hw, hb, hm, hy, hc, hp⟩ := SV_elim i4
  obtain ⟨r0, r1, e⟩ := s_12 x1 m_thrown hw hb hm told
  refine ⟨_, by unfold fT12; exact o_bS e, i1, i2, i3, i4, i5⟩
set_option maxHeartbeats 4000000 in
set_option maxRecDepth 100000 in
theorem t_13 (x1 x2 : Int32) (S : ZS) (h : Inv S) : ∃ S1, fT13 x1 x2 S = some S1 ∧ Inv S1 := by
  obtain ⟨⟨t_size, t_errorAt, t_bytes, t_length, t_at, t_error, t_costsRead, t_slipRead⟩, ⟨b_height, b_count, b_room, b_account, b_costs, b_lines, b_estimates, b_sellers, b_printed, b_wanted, b_slipped⟩, ⟨o_height, o_count, o_room, o_account, o_costs, o_lines, o_estimates, o_sellers, o_printed, o_wanted, o_slipped⟩, ⟨hi_past, hi_next, hi_kept⟩, ⟨y_numberOf, y_pageOf, y_lineOf, y_usedOn, y_lotsOn, y_firstOn, y_pages, y_printedLots, y_printedLines⟩, ⟨c_lots, c_figures, c_count, ⟨v_numberOf, v_pageOf, v_lineOf, v_usedOn, v_lotsOn, v_firstOn, v_pages, v_printedLots, v_printedLines⟩, c_printedBehind, c_changedOn, c_prices, c_priced⟩, x_latestErrorOffset, ⟨m_thrown, m_buffer, m_bufferLength, m_textLength, m_position, m_error, m_errorAt, m_errorOffset, m_data, m_draft, m_history, m_undoDepth, m_numberStart, m_seen, m_numberOf, m_pageOf, m_lineOf, m_stands, m_pages, m_before, m_told, m_wasPrinted⟩, told⟩ := S
  obtain ⟨i1, i2, i3, i4, i5⟩ := h
  have i1 : TV t_size t_bytes m_buffer m_bufferLength := i1
  have i2 : BO o_printed o_wanted o_slipped := i2
  have i3 : HV hi_past hi_next hi_kept m_history m_undoDepth := i3
  have i4 : SV (b_height, b_count, b_room, b_account, b_costs, b_lines, b_estimates, b_sellers, b_printed, b_wanted, b_slipped) m_data (y_numberOf, y_pageOf, y_lineOf, y_usedOn, y_lotsOn, y_firstOn, y_pages, y_printedLots, y_printedLines) c_lots c_count c_prices c_priced := i4
  have i5 : x_latestErrorOffset = m_errorOffset := i5
  obtain ⟨H, n, mm, ln, pr, wa, sl, hw, hb, hm, hy, hc, hp⟩ := SV_elim i4
  obtain ⟨r0, r1, e⟩ := s_13 x1 x2 m_thrown hw hb hm told
  refine ⟨_, by unfold fT13; exact o_bS e, i1, i2, i3, i4, i5⟩
set_option maxHeartbeats 4000000 in
set_option maxRecDepth 100000 in
theorem t_14 (x1 : Int32) (S : ZS) (h : Inv S) : ∃ S1, fT14 x1 S = some S1 ∧ Inv S1 := by
  obtain ⟨⟨t_size, t_errorAt, t_bytes, t_length, t_at, t_error, t_costsRead, t_slipRead⟩, ⟨b_height, b_count, b_room, b_account, b_costs, b_lines, b_estimates, b_sellers, b_printed, b_wanted, b_slipped⟩, ⟨o_height, o_count, o_room, o_account, o_costs, o_lines, o_estimates, o_sellers, o_printed, o_wanted, o_slipped⟩, ⟨hi_past, hi_next, hi_kept⟩, ⟨y_numberOf, y_pageOf, y_lineOf, y_usedOn, y_lotsOn, y_firstOn, y_pages, y_printedLots, y_printedLines⟩, ⟨c_lots, c_figures, c_count, ⟨v_numberOf, v_pageOf, v_lineOf, v_usedOn, v_lotsOn, v_firstOn, v_pages, v_printedLots, v_printedLines⟩, c_printedBehind, c_changedOn, c_prices, c_priced⟩, x_latestErrorOffset, ⟨m_thrown, m_buffer, m_bufferLength, m_textLength, m_position, m_error, m_errorAt, m_errorOffset, m_data, m_draft, m_history, m_undoDepth, m_numberStart, m_seen, m_numberOf, m_pageOf, m_lineOf, m_stands, m_pages, m_before, m_told, m_wasPrinted⟩, told⟩ := S
  obtain ⟨i1, i2, i3, i4, i5⟩ := h
  have i1 : TV t_size t_bytes m_buffer m_bufferLength := i1
  have i2 : BO o_printed o_wanted o_slipped := i2
  have i3 : HV hi_past hi_next hi_kept m_history m_undoDepth := i3
  have i4 : SV (b_height, b_count, b_room, b_account, b_costs, b_lines, b_estimates, b_sellers, b_printed, b_wanted, b_slipped) m_data (y_numberOf, y_pageOf, y_lineOf, y_usedOn, y_lotsOn, y_firstOn, y_pages, y_printedLots, y_printedLines) c_lots c_count c_prices c_priced := i4
  have i5 : x_latestErrorOffset = m_errorOffset := i5
  obtain ⟨H, n, mm, ln, pr, wa, sl, hw, hb, hm, hy, hc, hp⟩ := SV_elim i4
  obtain ⟨r0, r1, e⟩ := s_14 x1 m_thrown hw hb hm told
  refine ⟨_, by unfold fT14; exact o_bS e, i1, i2, i3, i4, i5⟩
set_option maxHeartbeats 4000000 in
set_option maxRecDepth 100000 in
theorem t_15 (S : ZS) (h : Inv S) : ∃ S1, fT15 S = some S1 ∧ Inv S1 := by
  obtain ⟨⟨t_size, t_errorAt, t_bytes, t_length, t_at, t_error, t_costsRead, t_slipRead⟩, ⟨b_height, b_count, b_room, b_account, b_costs, b_lines, b_estimates, b_sellers, b_printed, b_wanted, b_slipped⟩, ⟨o_height, o_count, o_room, o_account, o_costs, o_lines, o_estimates, o_sellers, o_printed, o_wanted, o_slipped⟩, ⟨hi_past, hi_next, hi_kept⟩, ⟨y_numberOf, y_pageOf, y_lineOf, y_usedOn, y_lotsOn, y_firstOn, y_pages, y_printedLots, y_printedLines⟩, ⟨c_lots, c_figures, c_count, ⟨v_numberOf, v_pageOf, v_lineOf, v_usedOn, v_lotsOn, v_firstOn, v_pages, v_printedLots, v_printedLines⟩, c_printedBehind, c_changedOn, c_prices, c_priced⟩, x_latestErrorOffset, ⟨m_thrown, m_buffer, m_bufferLength, m_textLength, m_position, m_error, m_errorAt, m_errorOffset, m_data, m_draft, m_history, m_undoDepth, m_numberStart, m_seen, m_numberOf, m_pageOf, m_lineOf, m_stands, m_pages, m_before, m_told, m_wasPrinted⟩, told⟩ := S
  obtain ⟨i1, i2, i3, i4, i5⟩ := h
  have i1 : TV t_size t_bytes m_buffer m_bufferLength := i1
  have i2 : BO o_printed o_wanted o_slipped := i2
  have i3 : HV hi_past hi_next hi_kept m_history m_undoDepth := i3
  have i4 : SV (b_height, b_count, b_room, b_account, b_costs, b_lines, b_estimates, b_sellers, b_printed, b_wanted, b_slipped) m_data (y_numberOf, y_pageOf, y_lineOf, y_usedOn, y_lotsOn, y_firstOn, y_pages, y_printedLots, y_printedLines) c_lots c_count c_prices c_priced := i4
  have i5 : x_latestErrorOffset = m_errorOffset := i5
  obtain ⟨H, n, mm, ln, pr, wa, sl, hw, hb, hm, hy, hc, hp⟩ := SV_elim i4
  obtain ⟨r0, r1, r2, r3, r4, r5, e⟩ := s_15 m_thrown hw hb hm hy m_numberOf m_pageOf m_lineOf m_stands m_pages
  refine ⟨_, by unfold fT15; exact o_bS e, i1, i2, i3, i4, i5⟩
set_option maxHeartbeats 4000000 in
set_option maxRecDepth 100000 in
theorem t_16 (x1 : Int32) (S : ZS) (h : Inv S) : ∃ S1, fT16 x1 S = some S1 ∧ Inv S1 := by
  obtain ⟨⟨t_size, t_errorAt, t_bytes, t_length, t_at, t_error, t_costsRead, t_slipRead⟩, ⟨b_height, b_count, b_room, b_account, b_costs, b_lines, b_estimates, b_sellers, b_printed, b_wanted, b_slipped⟩, ⟨o_height, o_count, o_room, o_account, o_costs, o_lines, o_estimates, o_sellers, o_printed, o_wanted, o_slipped⟩, ⟨hi_past, hi_next, hi_kept⟩, ⟨y_numberOf, y_pageOf, y_lineOf, y_usedOn, y_lotsOn, y_firstOn, y_pages, y_printedLots, y_printedLines⟩, ⟨c_lots, c_figures, c_count, ⟨v_numberOf, v_pageOf, v_lineOf, v_usedOn, v_lotsOn, v_firstOn, v_pages, v_printedLots, v_printedLines⟩, c_printedBehind, c_changedOn, c_prices, c_priced⟩, x_latestErrorOffset, ⟨m_thrown, m_buffer, m_bufferLength, m_textLength, m_position, m_error, m_errorAt, m_errorOffset, m_data, m_draft, m_history, m_undoDepth, m_numberStart, m_seen, m_numberOf, m_pageOf, m_lineOf, m_stands, m_pages, m_before, m_told, m_wasPrinted⟩, told⟩ := S
  obtain ⟨i1, i2, i3, i4, i5⟩ := h
  have i1 : TV t_size t_bytes m_buffer m_bufferLength := i1
  have i2 : BO o_printed o_wanted o_slipped := i2
  have i3 : HV hi_past hi_next hi_kept m_history m_undoDepth := i3
  have i4 : SV (b_height, b_count, b_room, b_account, b_costs, b_lines, b_estimates, b_sellers, b_printed, b_wanted, b_slipped) m_data (y_numberOf, y_pageOf, y_lineOf, y_usedOn, y_lotsOn, y_firstOn, y_pages, y_printedLots, y_printedLines) c_lots c_count c_prices c_priced := i4
  have i5 : x_latestErrorOffset = m_errorOffset := i5
  obtain ⟨r0, r1, r2, r3, r4, r5, r6, r7, r8, r9, r10, r11, r12, r13, r14, r15, r16, r17, r18, r19, r20, r21, e, k, l⟩ := s_16 x1 m_thrown i4 i3 told
  refine ⟨_, by unfold fT16; exact o_bS e, i1, i2, l, k, i5⟩
set_option maxHeartbeats 4000000 in
set_option maxRecDepth 100000 in
theorem t_17 (x1 : Int32) (S : ZS) (h : Inv S) : ∃ S1, fT17 x1 S = some S1 ∧ Inv S1 := by
  obtain ⟨⟨t_size, t_errorAt, t_bytes, t_length, t_at, t_error, t_costsRead, t_slipRead⟩, ⟨b_height, b_count, b_room, b_account, b_costs, b_lines, b_estimates, b_sellers, b_printed, b_wanted, b_slipped⟩, ⟨o_height, o_count, o_room, o_account, o_costs, o_lines, o_estimates, o_sellers, o_printed, o_wanted, o_slipped⟩, ⟨hi_past, hi_next, hi_kept⟩, ⟨y_numberOf, y_pageOf, y_lineOf, y_usedOn, y_lotsOn, y_firstOn, y_pages, y_printedLots, y_printedLines⟩, ⟨c_lots, c_figures, c_count, ⟨v_numberOf, v_pageOf, v_lineOf, v_usedOn, v_lotsOn, v_firstOn, v_pages, v_printedLots, v_printedLines⟩, c_printedBehind, c_changedOn, c_prices, c_priced⟩, x_latestErrorOffset, ⟨m_thrown, m_buffer, m_bufferLength, m_textLength, m_position, m_error, m_errorAt, m_errorOffset, m_data, m_draft, m_history, m_undoDepth, m_numberStart, m_seen, m_numberOf, m_pageOf, m_lineOf, m_stands, m_pages, m_before, m_told, m_wasPrinted⟩, told⟩ := S
  obtain ⟨i1, i2, i3, i4, i5⟩ := h
  have i1 : TV t_size t_bytes m_buffer m_bufferLength := i1
  have i2 : BO o_printed o_wanted o_slipped := i2
  have i3 : HV hi_past hi_next hi_kept m_history m_undoDepth := i3
  have i4 : SV (b_height, b_count, b_room, b_account, b_costs, b_lines, b_estimates, b_sellers, b_printed, b_wanted, b_slipped) m_data (y_numberOf, y_pageOf, y_lineOf, y_usedOn, y_lotsOn, y_firstOn, y_pages, y_printedLots, y_printedLines) c_lots c_count c_prices c_priced := i4
  have i5 : x_latestErrorOffset = m_errorOffset := i5
  obtain ⟨r0, r1, r2, r3, r4, r5, r6, r7, r8, r9, r10, r11, r12, r13, r14, r15, r16, r17, r18, r19, r20, r21, e, k, l⟩ := s_17 x1 m_thrown i4 i3 told
  refine ⟨_, by unfold fT17; exact o_bS e, i1, i2, l, k, i5⟩
set_option maxHeartbeats 4000000 in
set_option maxRecDepth 100000 in
theorem t_18 (x1 x2 x3 x4 : Int32) (S : ZS) (h : Inv S) : ∃ S1, fT18 x1 x2 x3 x4 S = some S1 ∧ Inv S1 := by
  obtain ⟨⟨t_size, t_errorAt, t_bytes, t_length, t_at, t_error, t_costsRead, t_slipRead⟩, ⟨b_height, b_count, b_room, b_account, b_costs, b_lines, b_estimates, b_sellers, b_printed, b_wanted, b_slipped⟩, ⟨o_height, o_count, o_room, o_account, o_costs, o_lines, o_estimates, o_sellers, o_printed, o_wanted, o_slipped⟩, ⟨hi_past, hi_next, hi_kept⟩, ⟨y_numberOf, y_pageOf, y_lineOf, y_usedOn, y_lotsOn, y_firstOn, y_pages, y_printedLots, y_printedLines⟩, ⟨c_lots, c_figures, c_count, ⟨v_numberOf, v_pageOf, v_lineOf, v_usedOn, v_lotsOn, v_firstOn, v_pages, v_printedLots, v_printedLines⟩, c_printedBehind, c_changedOn, c_prices, c_priced⟩, x_latestErrorOffset, ⟨m_thrown, m_buffer, m_bufferLength, m_textLength, m_position, m_error, m_errorAt, m_errorOffset, m_data, m_draft, m_history, m_undoDepth, m_numberStart, m_seen, m_numberOf, m_pageOf, m_lineOf, m_stands, m_pages, m_before, m_told, m_wasPrinted⟩, told⟩ := S
  obtain ⟨i1, i2, i3, i4, i5⟩ := h
  have i1 : TV t_size t_bytes m_buffer m_bufferLength := i1
  have i2 : BO o_printed o_wanted o_slipped := i2
  have i3 : HV hi_past hi_next hi_kept m_history m_undoDepth := i3
  have i4 : SV (b_height, b_count, b_room, b_account, b_costs, b_lines, b_estimates, b_sellers, b_printed, b_wanted, b_slipped) m_data (y_numberOf, y_pageOf, y_lineOf, y_usedOn, y_lotsOn, y_firstOn, y_pages, y_printedLots, y_printedLines) c_lots c_count c_prices c_priced := i4
  have i5 : x_latestErrorOffset = m_errorOffset := i5
  obtain ⟨r0, r1, r2, r3, r4, r5, r6, r7, r8, r9, r10, r11, r12, r13, r14, r15, r16, r17, r18, r19, r20, r21, r22, r23, r24, r25, r26, e, k, l⟩ := s_18 x1 x2 x3 x4 m_thrown i4 i3 told
  refine ⟨_, by unfold fT18; exact o_bS e, i1, i2, l, k, i5⟩
set_option maxHeartbeats 4000000 in
set_option maxRecDepth 100000 in
theorem t_19 (x1 : Int32) (S : ZS) (h : Inv S) : ∃ S1, fT19 x1 S = some S1 ∧ Inv S1 := by
  obtain ⟨⟨t_size, t_errorAt, t_bytes, t_length, t_at, t_error, t_costsRead, t_slipRead⟩, ⟨b_height, b_count, b_room, b_account, b_costs, b_lines, b_estimates, b_sellers, b_printed, b_wanted, b_slipped⟩, ⟨o_height, o_count, o_room, o_account, o_costs, o_lines, o_estimates, o_sellers, o_printed, o_wanted, o_slipped⟩, ⟨hi_past, hi_next, hi_kept⟩, ⟨y_numberOf, y_pageOf, y_lineOf, y_usedOn, y_lotsOn, y_firstOn, y_pages, y_printedLots, y_printedLines⟩, ⟨c_lots, c_figures, c_count, ⟨v_numberOf, v_pageOf, v_lineOf, v_usedOn, v_lotsOn, v_firstOn, v_pages, v_printedLots, v_printedLines⟩, c_printedBehind, c_changedOn, c_prices, c_priced⟩, x_latestErrorOffset, ⟨m_thrown, m_buffer, m_bufferLength, m_textLength, m_position, m_error, m_errorAt, m_errorOffset, m_data, m_draft, m_history, m_undoDepth, m_numberStart, m_seen, m_numberOf, m_pageOf, m_lineOf, m_stands, m_pages, m_before, m_told, m_wasPrinted⟩, told⟩ := S
  obtain ⟨i1, i2, i3, i4, i5⟩ := h
  have i1 : TV t_size t_bytes m_buffer m_bufferLength := i1
  have i2 : BO o_printed o_wanted o_slipped := i2
  have i3 : HV hi_past hi_next hi_kept m_history m_undoDepth := i3
  have i4 : SV (b_height, b_count, b_room, b_account, b_costs, b_lines, b_estimates, b_sellers, b_printed, b_wanted, b_slipped) m_data (y_numberOf, y_pageOf, y_lineOf, y_usedOn, y_lotsOn, y_firstOn, y_pages, y_printedLots, y_printedLines) c_lots c_count c_prices c_priced := i4
  have i5 : x_latestErrorOffset = m_errorOffset := i5
  obtain ⟨r0, r1, r2, r3, r4, r5, r6, r7, r8, r9, r10, r11, r12, r13, r14, r15, r16, r17, r18, r19, r20, r21, r22, r23, r24, r25, r26, r27, r28, r29, r30, r31, r32, r33, r34, r35, r36, r37, r38, r39, r40, r41, r42, e, k, l⟩ := s_19 x1 m_thrown i4 i3 c_figures v_numberOf v_pageOf v_lineOf v_usedOn v_lotsOn v_firstOn v_pages v_printedLots v_printedLines c_printedBehind c_changedOn m_numberOf m_pageOf m_lineOf m_stands m_pages m_before m_told m_wasPrinted told
  refine ⟨_, by unfold fT19; exact o_bS e, i1, i2, l, k, i5⟩
set_option maxHeartbeats 4000000 in
set_option maxRecDepth 100000 in
theorem t_20 (S : ZS) (h : Inv S) : ∃ S1, fT20 S = some S1 ∧ Inv S1 := by
  obtain ⟨⟨t_size, t_errorAt, t_bytes, t_length, t_at, t_error, t_costsRead, t_slipRead⟩, ⟨b_height, b_count, b_room, b_account, b_costs, b_lines, b_estimates, b_sellers, b_printed, b_wanted, b_slipped⟩, ⟨o_height, o_count, o_room, o_account, o_costs, o_lines, o_estimates, o_sellers, o_printed, o_wanted, o_slipped⟩, ⟨hi_past, hi_next, hi_kept⟩, ⟨y_numberOf, y_pageOf, y_lineOf, y_usedOn, y_lotsOn, y_firstOn, y_pages, y_printedLots, y_printedLines⟩, ⟨c_lots, c_figures, c_count, ⟨v_numberOf, v_pageOf, v_lineOf, v_usedOn, v_lotsOn, v_firstOn, v_pages, v_printedLots, v_printedLines⟩, c_printedBehind, c_changedOn, c_prices, c_priced⟩, x_latestErrorOffset, ⟨m_thrown, m_buffer, m_bufferLength, m_textLength, m_position, m_error, m_errorAt, m_errorOffset, m_data, m_draft, m_history, m_undoDepth, m_numberStart, m_seen, m_numberOf, m_pageOf, m_lineOf, m_stands, m_pages, m_before, m_told, m_wasPrinted⟩, told⟩ := S
  obtain ⟨i1, i2, i3, i4, i5⟩ := h
  have i1 : TV t_size t_bytes m_buffer m_bufferLength := i1
  have i2 : BO o_printed o_wanted o_slipped := i2
  have i3 : HV hi_past hi_next hi_kept m_history m_undoDepth := i3
  have i4 : SV (b_height, b_count, b_room, b_account, b_costs, b_lines, b_estimates, b_sellers, b_printed, b_wanted, b_slipped) m_data (y_numberOf, y_pageOf, y_lineOf, y_usedOn, y_lotsOn, y_firstOn, y_pages, y_printedLots, y_printedLines) c_lots c_count c_prices c_priced := i4
  have i5 : x_latestErrorOffset = m_errorOffset := i5
  obtain ⟨r0, r1, r2, r3, r4, r5, r6, r7, r8, r9, r10, r11, r12, r13, r14, r15, r16, r17, r18, r19, r20, r21, r22, r23, r24, r25, r26, r27, r28, r29, r30, r31, r32, r33, r34, r35, r36, r37, r38, r39, r40, r41, r42, e, k, l⟩ := s_20 m_thrown i4 i3 c_figures v_numberOf v_pageOf v_lineOf v_usedOn v_lotsOn v_firstOn v_pages v_printedLots v_printedLines c_printedBehind c_changedOn m_numberOf m_pageOf m_lineOf m_stands m_pages m_before m_told m_wasPrinted
  refine ⟨_, by unfold fT20; exact o_bS e, i1, i2, l, k, i5⟩
set_option maxHeartbeats 4000000 in
set_option maxRecDepth 100000 in
theorem t_21 (x1 x2 : Int32) (S : ZS) (h : Inv S) : ∃ S1, fT21 x1 x2 S = some S1 ∧ Inv S1 := by
  obtain ⟨⟨t_size, t_errorAt, t_bytes, t_length, t_at, t_error, t_costsRead, t_slipRead⟩, ⟨b_height, b_count, b_room, b_account, b_costs, b_lines, b_estimates, b_sellers, b_printed, b_wanted, b_slipped⟩, ⟨o_height, o_count, o_room, o_account, o_costs, o_lines, o_estimates, o_sellers, o_printed, o_wanted, o_slipped⟩, ⟨hi_past, hi_next, hi_kept⟩, ⟨y_numberOf, y_pageOf, y_lineOf, y_usedOn, y_lotsOn, y_firstOn, y_pages, y_printedLots, y_printedLines⟩, ⟨c_lots, c_figures, c_count, ⟨v_numberOf, v_pageOf, v_lineOf, v_usedOn, v_lotsOn, v_firstOn, v_pages, v_printedLots, v_printedLines⟩, c_printedBehind, c_changedOn, c_prices, c_priced⟩, x_latestErrorOffset, ⟨m_thrown, m_buffer, m_bufferLength, m_textLength, m_position, m_error, m_errorAt, m_errorOffset, m_data, m_draft, m_history, m_undoDepth, m_numberStart, m_seen, m_numberOf, m_pageOf, m_lineOf, m_stands, m_pages, m_before, m_told, m_wasPrinted⟩, told⟩ := S
  obtain ⟨i1, i2, i3, i4, i5⟩ := h
  have i1 : TV t_size t_bytes m_buffer m_bufferLength := i1
  have i2 : BO o_printed o_wanted o_slipped := i2
  have i3 : HV hi_past hi_next hi_kept m_history m_undoDepth := i3
  have i4 : SV (b_height, b_count, b_room, b_account, b_costs, b_lines, b_estimates, b_sellers, b_printed, b_wanted, b_slipped) m_data (y_numberOf, y_pageOf, y_lineOf, y_usedOn, y_lotsOn, y_firstOn, y_pages, y_printedLots, y_printedLines) c_lots c_count c_prices c_priced := i4
  have i5 : x_latestErrorOffset = m_errorOffset := i5
  obtain ⟨r0, r1, r2, r3, r4, r5, r6, r7, r8, r9, r10, r11, r12, r13, r14, r15, r16, r17, r18, r19, r20, e, k, l⟩ := s_21 x1 x2 m_thrown i4 i3 told
  refine ⟨_, by unfold fT21; exact o_bS e, i1, i2, l, k, i5⟩
set_option maxHeartbeats 4000000 in
set_option maxRecDepth 100000 in
theorem t_22 (S : ZS) (h : Inv S) : ∃ S1, fT22 S = some S1 ∧ Inv S1 := by
  obtain ⟨⟨t_size, t_errorAt, t_bytes, t_length, t_at, t_error, t_costsRead, t_slipRead⟩, ⟨b_height, b_count, b_room, b_account, b_costs, b_lines, b_estimates, b_sellers, b_printed, b_wanted, b_slipped⟩, ⟨o_height, o_count, o_room, o_account, o_costs, o_lines, o_estimates, o_sellers, o_printed, o_wanted, o_slipped⟩, ⟨hi_past, hi_next, hi_kept⟩, ⟨y_numberOf, y_pageOf, y_lineOf, y_usedOn, y_lotsOn, y_firstOn, y_pages, y_printedLots, y_printedLines⟩, ⟨c_lots, c_figures, c_count, ⟨v_numberOf, v_pageOf, v_lineOf, v_usedOn, v_lotsOn, v_firstOn, v_pages, v_printedLots, v_printedLines⟩, c_printedBehind, c_changedOn, c_prices, c_priced⟩, x_latestErrorOffset, ⟨m_thrown, m_buffer, m_bufferLength, m_textLength, m_position, m_error, m_errorAt, m_errorOffset, m_data, m_draft, m_history, m_undoDepth, m_numberStart, m_seen, m_numberOf, m_pageOf, m_lineOf, m_stands, m_pages, m_before, m_told, m_wasPrinted⟩, told⟩ := S
  obtain ⟨i1, i2, i3, i4, i5⟩ := h
  have i1 : TV t_size t_bytes m_buffer m_bufferLength := i1
  have i2 : BO o_printed o_wanted o_slipped := i2
  have i3 : HV hi_past hi_next hi_kept m_history m_undoDepth := i3
  have i4 : SV (b_height, b_count, b_room, b_account, b_costs, b_lines, b_estimates, b_sellers, b_printed, b_wanted, b_slipped) m_data (y_numberOf, y_pageOf, y_lineOf, y_usedOn, y_lotsOn, y_firstOn, y_pages, y_printedLots, y_printedLines) c_lots c_count c_prices c_priced := i4
  have i5 : x_latestErrorOffset = m_errorOffset := i5
  obtain ⟨r0, r1, r2, r3, r4, r5, r6, r7, r8, r9, r10, r11, r12, r13, r14, r15, r16, r17, r18, r19, r20, r21, r22, r23, r24, r25, r26, r27, e, k, l⟩ := s_22 m_thrown i4 i3
  refine ⟨_, by unfold fT22; exact o_bS e, i1, i2, l, k, i5⟩
set_option maxHeartbeats 4000000 in
set_option maxRecDepth 100000 in
theorem t_23 (S : ZS) (h : Inv S) : ∃ S1, fT23 S = some S1 ∧ Inv S1 := by
  obtain ⟨⟨t_size, t_errorAt, t_bytes, t_length, t_at, t_error, t_costsRead, t_slipRead⟩, ⟨b_height, b_count, b_room, b_account, b_costs, b_lines, b_estimates, b_sellers, b_printed, b_wanted, b_slipped⟩, ⟨o_height, o_count, o_room, o_account, o_costs, o_lines, o_estimates, o_sellers, o_printed, o_wanted, o_slipped⟩, ⟨hi_past, hi_next, hi_kept⟩, ⟨y_numberOf, y_pageOf, y_lineOf, y_usedOn, y_lotsOn, y_firstOn, y_pages, y_printedLots, y_printedLines⟩, ⟨c_lots, c_figures, c_count, ⟨v_numberOf, v_pageOf, v_lineOf, v_usedOn, v_lotsOn, v_firstOn, v_pages, v_printedLots, v_printedLines⟩, c_printedBehind, c_changedOn, c_prices, c_priced⟩, x_latestErrorOffset, ⟨m_thrown, m_buffer, m_bufferLength, m_textLength, m_position, m_error, m_errorAt, m_errorOffset, m_data, m_draft, m_history, m_undoDepth, m_numberStart, m_seen, m_numberOf, m_pageOf, m_lineOf, m_stands, m_pages, m_before, m_told, m_wasPrinted⟩, told⟩ := S
  obtain ⟨i1, i2, i3, i4, i5⟩ := h
  have i1 : TV t_size t_bytes m_buffer m_bufferLength := i1
  have i2 : BO o_printed o_wanted o_slipped := i2
  have i3 : HV hi_past hi_next hi_kept m_history m_undoDepth := i3
  have i4 : SV (b_height, b_count, b_room, b_account, b_costs, b_lines, b_estimates, b_sellers, b_printed, b_wanted, b_slipped) m_data (y_numberOf, y_pageOf, y_lineOf, y_usedOn, y_lotsOn, y_firstOn, y_pages, y_printedLots, y_printedLines) c_lots c_count c_prices c_priced := i4
  have i5 : x_latestErrorOffset = m_errorOffset := i5
  obtain ⟨H, n, mm, ln, pr, wa, sl, hw, hb, hm, hy, hc, hp⟩ := SV_elim i4
  obtain ⟨r0, r1, r2, r3, r4, r5, r6, r7, r8, r9, r10, r11, r12, r13, r14, r15, r16, r17, r18, r19, r20, r21, r22, e, k⟩ := s_23 m_thrown hw hb hm hy hc c_figures v_numberOf v_pageOf v_lineOf v_usedOn v_lotsOn v_firstOn v_pages v_printedLots v_printedLines c_printedBehind c_changedOn c_prices c_priced hp m_numberOf m_pageOf m_lineOf m_stands m_pages m_before m_told m_wasPrinted
  refine ⟨_, by unfold fT23; exact o_bS e, i1, i2, i3, SV_intro hw hb hm hy hc k, i5⟩
set_option maxHeartbeats 4000000 in
set_option maxRecDepth 100000 in
theorem t_2 (S : ZS) (h : Inv S) : ∃ S1, fT2 S = some S1 ∧ Inv S1 := by
  obtain ⟨⟨t_size, t_errorAt, t_bytes, t_length, t_at, t_error, t_costsRead, t_slipRead⟩, ⟨b_height, b_count, b_room, b_account, b_costs, b_lines, b_estimates, b_sellers, b_printed, b_wanted, b_slipped⟩, ⟨o_height, o_count, o_room, o_account, o_costs, o_lines, o_estimates, o_sellers, o_printed, o_wanted, o_slipped⟩, ⟨hi_past, hi_next, hi_kept⟩, ⟨y_numberOf, y_pageOf, y_lineOf, y_usedOn, y_lotsOn, y_firstOn, y_pages, y_printedLots, y_printedLines⟩, ⟨c_lots, c_figures, c_count, ⟨v_numberOf, v_pageOf, v_lineOf, v_usedOn, v_lotsOn, v_firstOn, v_pages, v_printedLots, v_printedLines⟩, c_printedBehind, c_changedOn, c_prices, c_priced⟩, x_latestErrorOffset, ⟨m_thrown, m_buffer, m_bufferLength, m_textLength, m_position, m_error, m_errorAt, m_errorOffset, m_data, m_draft, m_history, m_undoDepth, m_numberStart, m_seen, m_numberOf, m_pageOf, m_lineOf, m_stands, m_pages, m_before, m_told, m_wasPrinted⟩, told⟩ := S
  obtain ⟨i1, i2, i3, i4, i5⟩ := h
  have i1 : TV t_size t_bytes m_buffer m_bufferLength := i1
  have i2 : BO o_printed o_wanted o_slipped := i2
  have i3 : HV hi_past hi_next hi_kept m_history m_undoDepth := i3
  have i4 : SV (b_height, b_count, b_room, b_account, b_costs, b_lines, b_estimates, b_sellers, b_printed, b_wanted, b_slipped) m_data (y_numberOf, y_pageOf, y_lineOf, y_usedOn, y_lotsOn, y_firstOn, y_pages, y_printedLots, y_printedLines) c_lots c_count c_prices c_priced := i4
  have i5 : x_latestErrorOffset = m_errorOffset := i5
  have e : fS2 x_latestErrorOffset m_thrown m_errorOffset = some 0 := by
    unfold fS2 fX5_errorOffset fX6_errorOffset
    rw [n_bind, n_bind]
    exact if_pos i5
  refine ⟨_, by unfold fT2; exact o_bS e, i1, i2, i3, i4, i5⟩
