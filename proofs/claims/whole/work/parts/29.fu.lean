def f_Fu_isFuel (u1 : Int32) : Option (Int32) := if u1 < 0 then (some 0) else (if 2000 < u1 then (some 0) else (some 1))
set_option maxRecDepth 100000 in
set_option maxHeartbeats 4000000 in
theorem c_Fu_isFuel (l : Launch) (D : va_G) (K : Nat → ClassId) (u1 : Int32) (o : Int32) (h : f_Fu_isFuel u1 = some o) : Ct l y_Fu_isFuel b_Fu_isFuel 1 (some .boolean) { frames := 0, cells := 0, slots := 0, locals := 0 } D vwCl (xTy K) [.int u1] [] (some (.int o)) [] := by
  refine Ct.ofG (by decide) (Nat.le_of_ble_eq_true rfl) ?_
  refine g_L (L' := [(0, .int u1)]) rfl ?_
  unfold f_Fu_isFuel at h
  refine g_iload_n d_Fu_isFuel_0 rfl ?_
  refine g_if_lt (tgt := 15) d_Fu_isFuel_1 (by decide) (fun hc => ?_) (fun hc => ?_)
  · replace h := it_t hc h
    refine g_iconst (v := 0) d_Fu_isFuel_15 (by decide) ?_
    obtain rfl := Option.some.inj h
    exact g_zret (v := 0) rfl (by decide) d_Fu_isFuel_16
  · replace h := it_f hc h
    refine g_iload_n d_Fu_isFuel_4 rfl ?_
    refine g_sipush (v := 2000) d_Fu_isFuel_5 (by decide) ?_
    refine g_icmp_gt (tgt := 15) d_Fu_isFuel_8 (by decide) (fun hc => ?_) (fun hc => ?_)
    · replace h := it_t hc h
      refine g_iconst (v := 0) d_Fu_isFuel_15 (by decide) ?_
      obtain rfl := Option.some.inj h
      exact g_zret (v := 0) rfl (by decide) d_Fu_isFuel_16
    · replace h := it_f hc h
      refine g_iconst (v := 1) d_Fu_isFuel_11 (by decide) ?_
      refine g_goto (tgt := 16) d_Fu_isFuel_12 (by decide) ?_
      obtain rfl := Option.some.inj h
      exact g_zret (v := 1) rfl (by decide) d_Fu_isFuel_16
def f_Fu_fault (se_size : Int32) (bb : Nat → Int32) (rd_at : Int32) (rd_limit : Int32) (rd_broken : Int32) (la_count : Int32) (li_operation : Int32) (li_register : Int32) (li_number : Int32) (li_bytesFrom : Int32) (en_isFrame : Nat → Int32) (en_begins : Nat → Int32) (en_instructions : Nat → Int32) (en_ends : Nat → Int32) (en_common : Nat → Int32) (en_code : Nat → Int32) (en_data : Nat → Int32) (en_returnRegister : Nat → Int32) (en_first : Nat → Int32) (en_range : Nat → Int32) : Option (Int32 × Int32 × Int32 × Int32 × Int32 × Int32 × Int32 × Int32 × Int32 × (Nat → Int32) × (Nat → Int32) × (Nat → Int32) × (Nat → Int32) × (Nat → Int32) × (Nat → Int32) × (Nat → Int32) × (Nat → Int32) × (Nat → Int32) × (Nat → Int32)) := ((f_La_firstFault la_count se_size bb rd_at rd_limit rd_broken li_operation li_register li_number li_bytesFrom en_isFrame en_begins en_instructions en_ends en_common en_code en_data en_returnRegister en_first en_range).bind fun q4 => some (q4.1, q4.2.2.1, q4.2.2.2.1, q4.2.2.2.2.1, q4.2.1, q4.2.2.2.2.2.1, q4.2.2.2.2.2.2.1, q4.2.2.2.2.2.2.2.1, q4.2.2.2.2.2.2.2.2.1, q4.2.2.2.2.2.2.2.2.2.1, q4.2.2.2.2.2.2.2.2.2.2.1, q4.2.2.2.2.2.2.2.2.2.2.2.1, q4.2.2.2.2.2.2.2.2.2.2.2.2.1, q4.2.2.2.2.2.2.2.2.2.2.2.2.2.1, q4.2.2.2.2.2.2.2.2.2.2.2.2.2.2.1, q4.2.2.2.2.2.2.2.2.2.2.2.2.2.2.2.1, q4.2.2.2.2.2.2.2.2.2.2.2.2.2.2.2.2.1, q4.2.2.2.2.2.2.2.2.2.2.2.2.2.2.2.2.2.1, q4.2.2.2.2.2.2.2.2.2.2.2.2.2.2.2.2.2.2))
set_option maxRecDepth 100000 in
set_option maxHeartbeats 4000000 in
theorem c_Fu_fault (l : Launch) (D : va_G) (K : Nat → ClassId) (a_t a_se a_bb a_rd a_la a_li a_ls a_tr a_me a_fr a_ca a_rk : Nat) (a_en : Nat → Nat) (t_lastValue : Int32) (se_size : Int32) (bb : Nat → Int32) (rd_at : Int32) (rd_limit : Int32) (rd_broken : Int32) (la_count : Int32) (li_operation : Int32) (li_register : Int32) (li_number : Int32) (li_bytesFrom : Int32) (en_isFrame : Nat → Int32) (en_begins : Nat → Int32) (en_instructions : Nat → Int32) (en_ends : Nat → Int32) (en_common : Nat → Int32) (en_code : Nat → Int32) (en_data : Nat → Int32) (en_returnRegister : Nat → Int32) (en_first : Nat → Int32) (en_range : Nat → Int32) (o : Int32 × Int32 × Int32 × Int32 × Int32 × Int32 × Int32 × Int32 × Int32 × (Nat → Int32) × (Nat → Int32) × (Nat → Int32) × (Nat → Int32) × (Nat → Int32) × (Nat → Int32) × (Nat → Int32) × (Nat → Int32) × (Nat → Int32) × (Nat → Int32)) (h : f_Fu_fault se_size bb rd_at rd_limit rd_broken la_count li_operation li_register li_number li_bytesFrom en_isFrame en_begins en_instructions en_ends en_common en_code en_data en_returnRegister en_first en_range = some o) : Ct l y_Fu_fault b_Fu_fault 1 (some .int) { frames := 6, cells := 0, slots := 0, locals := 138 } D vwCl (xTy K) [.ref a_t] ([(a_t, .inr (10, [.ref a_se, .ref a_la, .ref a_tr, .ref a_me, .ref a_fr, .ref a_ca, .ref a_rk, .int t_lastValue])), (a_se, .inr (8, [.ref a_bb, .int se_size])), (a_bb, .inl (K 0, 512, .inl bb)), (a_rd, .inr (5, [.ref a_bb, .int rd_at, .int rd_limit, .int rd_broken])), (a_la, .inr (3, [.ref a_se, .ref a_rd, .ref a_li, .ref a_ls, .int la_count])), (a_li, .inr (2, [.int li_operation, .int li_register, .int li_number, .int li_bytesFrom])), (a_ls, .inl (K 4, 16, .inr (.inr (.inr (.inr (fun k9 => some (a_en k9)))))))] ++ (List.range 16).map (fun k9 => (a_en k9, .inr (0, [.int (en_isFrame k9), .int (en_begins k9), .int (en_instructions k9), .int (en_ends k9), .int (en_common k9), .int (en_code k9), .int (en_data k9), .int (en_returnRegister k9), .int (en_first k9), .int (en_range k9)])))) (some (.int o.1)) ([(a_t, .inr (10, [.ref a_se, .ref a_la, .ref a_tr, .ref a_me, .ref a_fr, .ref a_ca, .ref a_rk, .int t_lastValue])), (a_se, .inr (8, [.ref a_bb, .int se_size])), (a_bb, .inl (K 0, 512, .inl bb)), (a_rd, .inr (5, [.ref a_bb, .int o.2.1, .int o.2.2.1, .int o.2.2.2.1])), (a_la, .inr (3, [.ref a_se, .ref a_rd, .ref a_li, .ref a_ls, .int o.2.2.2.2.1])), (a_li, .inr (2, [.int o.2.2.2.2.2.1, .int o.2.2.2.2.2.2.1, .int o.2.2.2.2.2.2.2.1, .int o.2.2.2.2.2.2.2.2.1])), (a_ls, .inl (K 4, 16, .inr (.inr (.inr (.inr (fun k9 => some (a_en k9)))))))] ++ (List.range 16).map (fun k9 => (a_en k9, .inr (0, [.int (o.2.2.2.2.2.2.2.2.2.1 k9), .int (o.2.2.2.2.2.2.2.2.2.2.1 k9), .int (o.2.2.2.2.2.2.2.2.2.2.2.1 k9), .int (o.2.2.2.2.2.2.2.2.2.2.2.2.1 k9), .int (o.2.2.2.2.2.2.2.2.2.2.2.2.2.1 k9), .int (o.2.2.2.2.2.2.2.2.2.2.2.2.2.2.1 k9), .int (o.2.2.2.2.2.2.2.2.2.2.2.2.2.2.2.1 k9), .int (o.2.2.2.2.2.2.2.2.2.2.2.2.2.2.2.2.1 k9), .int (o.2.2.2.2.2.2.2.2.2.2.2.2.2.2.2.2.2.1 k9), .int (o.2.2.2.2.2.2.2.2.2.2.2.2.2.2.2.2.2.2 k9)])))) := by
  refine Ct.ofG (by decide) (Nat.le_of_ble_eq_true rfl) ?_
  refine g_L (L' := [(0, .ref a_t)]) rfl ?_
  unfold f_Fu_fault at h
  refine g_aload_n d_Fu_fault_0 rfl ?_
  refine gf_Fu_30 0 rfl (v := .ref a_la) rfl d_Fu_fault_1 ?_
  obtain ⟨q4, hq4, h⟩ := it_b h
  refine g_callV (ci := 3) (q := (xR_La, xF_La, 5)) (As := []) (rest := []) (st2 := [.int q4.1]) (ws2 := ([(a_t, .inr (10, [.ref a_se, .ref a_la, .ref a_tr, .ref a_me, .ref a_fr, .ref a_ca, .ref a_rk, .int t_lastValue])), (a_se, .inr (8, [.ref a_bb, .int se_size])), (a_bb, .inl (K 0, 512, .inl bb)), (a_rd, .inr (5, [.ref a_bb, .int q4.2.2.1, .int q4.2.2.2.1, .int q4.2.2.2.2.1])), (a_la, .inr (3, [.ref a_se, .ref a_rd, .ref a_li, .ref a_ls, .int q4.2.1])), (a_li, .inr (2, [.int q4.2.2.2.2.2.1, .int q4.2.2.2.2.2.2.1, .int q4.2.2.2.2.2.2.2.1, .int q4.2.2.2.2.2.2.2.2.1])), (a_ls, .inl (K 4, 16, .inr (.inr (.inr (.inr (fun k9 => some (a_en k9)))))))] ++ (List.range 16).map (fun k9 => (a_en k9, .inr (0, [.int (q4.2.2.2.2.2.2.2.2.2.1 k9), .int (q4.2.2.2.2.2.2.2.2.2.2.1 k9), .int (q4.2.2.2.2.2.2.2.2.2.2.2.1 k9), .int (q4.2.2.2.2.2.2.2.2.2.2.2.2.1 k9), .int (q4.2.2.2.2.2.2.2.2.2.2.2.2.2.1 k9), .int (q4.2.2.2.2.2.2.2.2.2.2.2.2.2.2.1 k9), .int (q4.2.2.2.2.2.2.2.2.2.2.2.2.2.2.2.1 k9), .int (q4.2.2.2.2.2.2.2.2.2.2.2.2.2.2.2.2.1 k9), .int (q4.2.2.2.2.2.2.2.2.2.2.2.2.2.2.2.2.2.1 k9), .int (q4.2.2.2.2.2.2.2.2.2.2.2.2.2.2.2.2.2.2 k9)]))))) (c_La_firstFault l D K a_la a_se a_bb a_rd a_li a_ls a_en la_count se_size bb rd_at rd_limit rd_broken li_operation li_register li_number li_bytesFrom en_isFrame en_begins en_instructions en_ends en_common en_code en_data en_returnRegister en_first en_range q4 hq4) (cs_Fu_93 rfl rfl ⟨Nat.le_of_ble_eq_true rfl, Nat.le_of_ble_eq_true rfl⟩) rfl 4 rfl (by refine gOver.plG (gOver.mk2 [4, 1, 2, 3, 5, 6] [none, some 1, some 2, some 3, some 0, some 4, some 5] (by decide) (by decide) ?_ ?_ ?_) (fun _ => ?_) <;> rfl) (Nat.le_of_ble_eq_true rfl) ⟨Nat.le_of_ble_eq_true rfl, Nat.le_of_ble_eq_true rfl⟩ d_Fu_fault_4 rfl rfl ?_
  obtain rfl := Option.some.inj h
  exact g_iret rfl d_Fu_fault_7
def f_Fu_entries (se_size : Int32) (bb : Nat → Int32) (rd_at : Int32) (rd_limit : Int32) (rd_broken : Int32) (la_count : Int32) (li_operation : Int32) (li_register : Int32) (li_number : Int32) (li_bytesFrom : Int32) (en_isFrame : Nat → Int32) (en_begins : Nat → Int32) (en_instructions : Nat → Int32) (en_ends : Nat → Int32) (en_common : Nat → Int32) (en_code : Nat → Int32) (en_data : Nat → Int32) (en_returnRegister : Nat → Int32) (en_first : Nat → Int32) (en_range : Nat → Int32) : Option (Int32 × Int32 × Int32 × Int32 × Int32 × Int32 × Int32 × Int32 × Int32 × (Nat → Int32) × (Nat → Int32) × (Nat → Int32) × (Nat → Int32) × (Nat → Int32) × (Nat → Int32) × (Nat → Int32) × (Nat → Int32) × (Nat → Int32) × (Nat → Int32)) := ((f_La_firstFault la_count se_size bb rd_at rd_limit rd_broken li_operation li_register li_number li_bytesFrom en_isFrame en_begins en_instructions en_ends en_common en_code en_data en_returnRegister en_first en_range).bind fun q4 => if q4.1 = (-1) then (some (q4.2.1, q4.2.2.1, q4.2.2.2.1, q4.2.2.2.2.1, q4.2.1, q4.2.2.2.2.2.1, q4.2.2.2.2.2.2.1, q4.2.2.2.2.2.2.2.1, q4.2.2.2.2.2.2.2.2.1, q4.2.2.2.2.2.2.2.2.2.1, q4.2.2.2.2.2.2.2.2.2.2.1, q4.2.2.2.2.2.2.2.2.2.2.2.1, q4.2.2.2.2.2.2.2.2.2.2.2.2.1, q4.2.2.2.2.2.2.2.2.2.2.2.2.2.1, q4.2.2.2.2.2.2.2.2.2.2.2.2.2.2.1, q4.2.2.2.2.2.2.2.2.2.2.2.2.2.2.2.1, q4.2.2.2.2.2.2.2.2.2.2.2.2.2.2.2.2.1, q4.2.2.2.2.2.2.2.2.2.2.2.2.2.2.2.2.2.1, q4.2.2.2.2.2.2.2.2.2.2.2.2.2.2.2.2.2.2)) else (some ((-1), q4.2.2.1, q4.2.2.2.1, q4.2.2.2.2.1, q4.2.1, q4.2.2.2.2.2.1, q4.2.2.2.2.2.2.1, q4.2.2.2.2.2.2.2.1, q4.2.2.2.2.2.2.2.2.1, q4.2.2.2.2.2.2.2.2.2.1, q4.2.2.2.2.2.2.2.2.2.2.1, q4.2.2.2.2.2.2.2.2.2.2.2.1, q4.2.2.2.2.2.2.2.2.2.2.2.2.1, q4.2.2.2.2.2.2.2.2.2.2.2.2.2.1, q4.2.2.2.2.2.2.2.2.2.2.2.2.2.2.1, q4.2.2.2.2.2.2.2.2.2.2.2.2.2.2.2.1, q4.2.2.2.2.2.2.2.2.2.2.2.2.2.2.2.2.1, q4.2.2.2.2.2.2.2.2.2.2.2.2.2.2.2.2.2.1, q4.2.2.2.2.2.2.2.2.2.2.2.2.2.2.2.2.2.2)))
set_option maxRecDepth 100000 in
set_option maxHeartbeats 4000000 in
theorem c_Fu_entries (l : Launch) (D : va_G) (K : Nat → ClassId) (a_t a_se a_bb a_rd a_la a_li a_ls a_tr a_me a_fr a_ca a_rk : Nat) (a_en : Nat → Nat) (t_lastValue : Int32) (se_size : Int32) (bb : Nat → Int32) (rd_at : Int32) (rd_limit : Int32) (rd_broken : Int32) (la_count : Int32) (li_operation : Int32) (li_register : Int32) (li_number : Int32) (li_bytesFrom : Int32) (en_isFrame : Nat → Int32) (en_begins : Nat → Int32) (en_instructions : Nat → Int32) (en_ends : Nat → Int32) (en_common : Nat → Int32) (en_code : Nat → Int32) (en_data : Nat → Int32) (en_returnRegister : Nat → Int32) (en_first : Nat → Int32) (en_range : Nat → Int32) (o : Int32 × Int32 × Int32 × Int32 × Int32 × Int32 × Int32 × Int32 × Int32 × (Nat → Int32) × (Nat → Int32) × (Nat → Int32) × (Nat → Int32) × (Nat → Int32) × (Nat → Int32) × (Nat → Int32) × (Nat → Int32) × (Nat → Int32) × (Nat → Int32)) (h : f_Fu_entries se_size bb rd_at rd_limit rd_broken la_count li_operation li_register li_number li_bytesFrom en_isFrame en_begins en_instructions en_ends en_common en_code en_data en_returnRegister en_first en_range = some o) : Ct l y_Fu_entries b_Fu_entries 1 (some .int) { frames := 6, cells := 0, slots := 0, locals := 138 } D vwCl (xTy K) [.ref a_t] ([(a_t, .inr (10, [.ref a_se, .ref a_la, .ref a_tr, .ref a_me, .ref a_fr, .ref a_ca, .ref a_rk, .int t_lastValue])), (a_se, .inr (8, [.ref a_bb, .int se_size])), (a_bb, .inl (K 0, 512, .inl bb)), (a_rd, .inr (5, [.ref a_bb, .int rd_at, .int rd_limit, .int rd_broken])), (a_la, .inr (3, [.ref a_se, .ref a_rd, .ref a_li, .ref a_ls, .int la_count])), (a_li, .inr (2, [.int li_operation, .int li_register, .int li_number, .int li_bytesFrom])), (a_ls, .inl (K 4, 16, .inr (.inr (.inr (.inr (fun k9 => some (a_en k9)))))))] ++ (List.range 16).map (fun k9 => (a_en k9, .inr (0, [.int (en_isFrame k9), .int (en_begins k9), .int (en_instructions k9), .int (en_ends k9), .int (en_common k9), .int (en_code k9), .int (en_data k9), .int (en_returnRegister k9), .int (en_first k9), .int (en_range k9)])))) (some (.int o.1)) ([(a_t, .inr (10, [.ref a_se, .ref a_la, .ref a_tr, .ref a_me, .ref a_fr, .ref a_ca, .ref a_rk, .int t_lastValue])), (a_se, .inr (8, [.ref a_bb, .int se_size])), (a_bb, .inl (K 0, 512, .inl bb)), (a_rd, .inr (5, [.ref a_bb, .int o.2.1, .int o.2.2.1, .int o.2.2.2.1])), (a_la, .inr (3, [.ref a_se, .ref a_rd, .ref a_li, .ref a_ls, .int o.2.2.2.2.1])), (a_li, .inr (2, [.int o.2.2.2.2.2.1, .int o.2.2.2.2.2.2.1, .int o.2.2.2.2.2.2.2.1, .int o.2.2.2.2.2.2.2.2.1])), (a_ls, .inl (K 4, 16, .inr (.inr (.inr (.inr (fun k9 => some (a_en k9)))))))] ++ (List.range 16).map (fun k9 => (a_en k9, .inr (0, [.int (o.2.2.2.2.2.2.2.2.2.1 k9), .int (o.2.2.2.2.2.2.2.2.2.2.1 k9), .int (o.2.2.2.2.2.2.2.2.2.2.2.1 k9), .int (o.2.2.2.2.2.2.2.2.2.2.2.2.1 k9), .int (o.2.2.2.2.2.2.2.2.2.2.2.2.2.1 k9), .int (o.2.2.2.2.2.2.2.2.2.2.2.2.2.2.1 k9), .int (o.2.2.2.2.2.2.2.2.2.2.2.2.2.2.2.1 k9), .int (o.2.2.2.2.2.2.2.2.2.2.2.2.2.2.2.2.1 k9), .int (o.2.2.2.2.2.2.2.2.2.2.2.2.2.2.2.2.2.1 k9), .int (o.2.2.2.2.2.2.2.2.2.2.2.2.2.2.2.2.2.2 k9)])))) := by
  refine Ct.ofG (by decide) (Nat.le_of_ble_eq_true rfl) ?_
  refine g_L (L' := [(0, .ref a_t)]) rfl ?_
  unfold f_Fu_entries at h
  refine g_aload_n d_Fu_entries_0 rfl ?_
  refine gf_Fu_30 0 rfl (v := .ref a_la) rfl d_Fu_entries_1 ?_
  obtain ⟨q4, hq4, h⟩ := it_b h
  refine g_callV (ci := 3) (q := (xR_La, xF_La, 5)) (As := []) (rest := []) (st2 := [.int q4.1]) (ws2 := ([(a_t, .inr (10, [.ref a_se, .ref a_la, .ref a_tr, .ref a_me, .ref a_fr, .ref a_ca, .ref a_rk, .int t_lastValue])), (a_se, .inr (8, [.ref a_bb, .int se_size])), (a_bb, .inl (K 0, 512, .inl bb)), (a_rd, .inr (5, [.ref a_bb, .int q4.2.2.1, .int q4.2.2.2.1, .int q4.2.2.2.2.1])), (a_la, .inr (3, [.ref a_se, .ref a_rd, .ref a_li, .ref a_ls, .int q4.2.1])), (a_li, .inr (2, [.int q4.2.2.2.2.2.1, .int q4.2.2.2.2.2.2.1, .int q4.2.2.2.2.2.2.2.1, .int q4.2.2.2.2.2.2.2.2.1])), (a_ls, .inl (K 4, 16, .inr (.inr (.inr (.inr (fun k9 => some (a_en k9)))))))] ++ (List.range 16).map (fun k9 => (a_en k9, .inr (0, [.int (q4.2.2.2.2.2.2.2.2.2.1 k9), .int (q4.2.2.2.2.2.2.2.2.2.2.1 k9), .int (q4.2.2.2.2.2.2.2.2.2.2.2.1 k9), .int (q4.2.2.2.2.2.2.2.2.2.2.2.2.1 k9), .int (q4.2.2.2.2.2.2.2.2.2.2.2.2.2.1 k9), .int (q4.2.2.2.2.2.2.2.2.2.2.2.2.2.2.1 k9), .int (q4.2.2.2.2.2.2.2.2.2.2.2.2.2.2.2.1 k9), .int (q4.2.2.2.2.2.2.2.2.2.2.2.2.2.2.2.2.1 k9), .int (q4.2.2.2.2.2.2.2.2.2.2.2.2.2.2.2.2.2.1 k9), .int (q4.2.2.2.2.2.2.2.2.2.2.2.2.2.2.2.2.2.2 k9)]))))) (c_La_firstFault l D K a_la a_se a_bb a_rd a_li a_ls a_en la_count se_size bb rd_at rd_limit rd_broken li_operation li_register li_number li_bytesFrom en_isFrame en_begins en_instructions en_ends en_common en_code en_data en_returnRegister en_first en_range q4 hq4) (cs_Fu_93 rfl rfl ⟨Nat.le_of_ble_eq_true rfl, Nat.le_of_ble_eq_true rfl⟩) rfl 4 rfl (by refine gOver.plG (gOver.mk2 [4, 1, 2, 3, 5, 6] [none, some 1, some 2, some 3, some 0, some 4, some 5] (by decide) (by decide) ?_ ?_ ?_) (fun _ => ?_) <;> rfl) (Nat.le_of_ble_eq_true rfl) ⟨Nat.le_of_ble_eq_true rfl, Nat.le_of_ble_eq_true rfl⟩ d_Fu_entries_4 rfl rfl ?_
  refine g_iconst (v := (-1)) d_Fu_entries_7 (by decide) ?_
  refine g_icmp_ne (tgt := 21) d_Fu_entries_8 (by decide) (fun hc => ?_) (fun hc => ?_)
  · replace h := it_f hc h
    refine g_iconst (v := (-1)) d_Fu_entries_21 (by decide) ?_
    obtain rfl := Option.some.inj h
    exact g_iret rfl d_Fu_entries_22
  · replace h := it_t hc h
    refine g_aload_n d_Fu_entries_11 rfl ?_
    refine gf_Fu_30 0 rfl (v := .ref a_la) rfl d_Fu_entries_12 ?_
    refine gf_Fu_97 4 rfl (v := .int q4.2.1) rfl d_Fu_entries_15 ?_
    refine g_goto (tgt := 22) d_Fu_entries_18 (by decide) ?_
    obtain rfl := Option.some.inj h
    exact g_iret rfl d_Fu_entries_22
def f_Fu_start (fr_pc : Int32) (fr_unwound : Int32) (p1 : Int32) : Option (Int32 × Int32) := some (p1, 0)
set_option maxRecDepth 100000 in
set_option maxHeartbeats 4000000 in
theorem c_Fu_start (l : Launch) (D : va_G) (K : Nat → ClassId) (a_t a_se a_la a_tr a_me a_fr a_fv a_ca a_rk : Nat) (t_lastValue : Int32) (fr_known : Int32) (fr_pc : Int32) (fr_unwound : Int32) (p1 : Int32) (o : Int32 × Int32) (h : f_Fu_start fr_pc fr_unwound p1 = some o) : Ct l y_Fu_start b_Fu_start 2 none { frames := 0, cells := 0, slots := 0, locals := 0 } D vwCl (xTy K) [.ref a_t, .int p1] [(a_t, .inr (10, [.ref a_se, .ref a_la, .ref a_tr, .ref a_me, .ref a_fr, .ref a_ca, .ref a_rk, .int t_lastValue])), (a_fr, .inr (1, [.ref a_fv, .int fr_known, .int fr_pc, .int fr_unwound]))] none [(a_t, .inr (10, [.ref a_se, .ref a_la, .ref a_tr, .ref a_me, .ref a_fr, .ref a_ca, .ref a_rk, .int t_lastValue])), (a_fr, .inr (1, [.ref a_fv, .int fr_known, .int o.1, .int o.2]))] := by
  refine Ct.ofG (by decide) (Nat.le_of_ble_eq_true rfl) ?_
  refine g_L (L' := [(0, .ref a_t), (1, .int p1)]) rfl ?_
  unfold f_Fu_start at h
  refine g_aload_n d_Fu_start_0 rfl ?_
  refine gf_Fu_53 0 rfl (v := .ref a_fr) rfl d_Fu_start_1 ?_
  refine g_iload_n d_Fu_start_4 rfl ?_
  refine pf_Fu_139 1 rfl (v := .int p1) rfl rfl (Nat.le_of_ble_eq_true rfl) (ws' := [(a_t, .inr (10, [.ref a_se, .ref a_la, .ref a_tr, .ref a_me, .ref a_fr, .ref a_ca, .ref a_rk, .int t_lastValue])), (a_fr, .inr (1, [.ref a_fv, .int fr_known, .int p1, .int fr_unwound]))]) rfl d_Fu_start_5 ?_
  refine g_aload_n d_Fu_start_8 rfl ?_
  refine gf_Fu_53 0 rfl (v := .ref a_fr) rfl d_Fu_start_9 ?_
  refine g_iconst (v := 0) d_Fu_start_12 (by decide) ?_
  refine pf_Fu_142 1 rfl (v := .int 0) rfl rfl (Nat.le_of_ble_eq_true rfl) (ws' := [(a_t, .inr (10, [.ref a_se, .ref a_la, .ref a_tr, .ref a_me, .ref a_fr, .ref a_ca, .ref a_rk, .int t_lastValue])), (a_fr, .inr (1, [.ref a_fv, .int fr_known, .int p1, .int 0]))]) rfl d_Fu_start_13 ?_
  obtain rfl := Option.some.inj h
  exact g_vret rfl d_Fu_start_16
def f_Fu_value (t_lastValue : Int32) : Option (Int32) := some t_lastValue
set_option maxRecDepth 100000 in
set_option maxHeartbeats 4000000 in
theorem c_Fu_value (l : Launch) (D : va_G) (K : Nat → ClassId) (a_t a_se a_la a_tr a_me a_fr a_ca a_rk : Nat) (t_lastValue : Int32) (o : Int32) (h : f_Fu_value t_lastValue = some o) : Ct l y_Fu_value b_Fu_value 1 (some .int) { frames := 0, cells := 0, slots := 0, locals := 0 } D vwCl (xTy K) [.ref a_t] [(a_t, .inr (10, [.ref a_se, .ref a_la, .ref a_tr, .ref a_me, .ref a_fr, .ref a_ca, .ref a_rk, .int t_lastValue]))] (some (.int o)) [(a_t, .inr (10, [.ref a_se, .ref a_la, .ref a_tr, .ref a_me, .ref a_fr, .ref a_ca, .ref a_rk, .int t_lastValue]))] := by
  refine Ct.ofG (by decide) (Nat.le_of_ble_eq_true rfl) ?_
  refine g_L (L' := [(0, .ref a_t)]) rfl ?_
  unfold f_Fu_value at h
  refine g_aload_n d_Fu_value_0 rfl ?_
  refine gf_Fu_69 0 rfl (v := .int t_lastValue) rfl d_Fu_value_1 ?_
  obtain rfl := Option.some.inj h
  exact g_iret rfl d_Fu_value_4
def f_Fu_reckonCfa (bb : Nat → Int32) (rd_at : Int32) (rd_limit : Int32) (rd_broken : Int32) (rok : Nat → Int32) (ron : Nat → Int32) (ros : Nat → Int32) (mw : Nat → Int32) (fr_known : Int32) (fv : Nat → Int32) (rk_height : Int32) (rk_hasCfa : Int32) (rk_cfa : Int32) (rk_begins : Int32) (sk : Nat → Int32) (u1 : Int32) : Option (Int32 × Int32 × Int32 × Int32 × Int32 × Int32 × Int32 × (Nat → Int32)) := if (8 : Int32) < 0 ∨ 9 ≤ (8 : Int32).toNatClampNeg then none else if (8 : Int32) < 0 ∨ 9 ≤ (8 : Int32).toNatClampNeg then none else ((f_Rk_clear rk_height rk_hasCfa).bind fun q21 => if (8 : Int32) < 0 ∨ 9 ≤ (8 : Int32).toNatClampNeg then none else if (rok (8 : Int32).toNatClampNeg) = 1 then (((f_Fr_knows fr_known (ros (8 : Int32).toNatClampNeg)).bind fun q62 => if q62 = 0 then (some (4, rd_at, rd_limit, rd_broken, q21.1, q21.2, rk_begins, sk)) else (if (ros (8 : Int32).toNatClampNeg) < 0 ∨ 8 ≤ (ros (8 : Int32).toNatClampNeg).toNatClampNeg then none else ((f_Rk_push q21.1 sk ((fv (ros (8 : Int32).toNatClampNeg).toNatClampNeg) + (ron (8 : Int32).toNatClampNeg))).bind fun q86 => some (0, rd_at, rd_limit, rd_broken, q86.1, q21.2, rk_begins, q86.2))))) else if (rok (8 : Int32).toNatClampNeg) = 2 then (((f_Rk_run q21.1 q21.2 rk_cfa rk_begins rd_at rd_limit rd_broken bb mw fr_known fv sk (ron (8 : Int32).toNatClampNeg) ((ron (8 : Int32).toNatClampNeg) + (ros (8 : Int32).toNatClampNeg)) u1).bind fun q101 => some (q101.1, q101.2.2.2.1, q101.2.2.2.2.1, q101.2.2.2.2.2.1, q101.2.1, q21.2, q101.2.2.1, q101.2.2.2.2.2.2))) else some (6, rd_at, rd_limit, rd_broken, q21.1, q21.2, rk_begins, sk))
set_option maxRecDepth 100000 in
set_option maxHeartbeats 4000000 in
theorem c_Fu_reckonCfa (l : Launch) (D : va_G) (K : Nat → ClassId) (a_t a_se a_bb a_rd a_la a_tr a_ro a_rok a_ron a_ros a_me a_mw a_fr a_fv a_ca a_rk a_sk : Nat) (t_lastValue : Int32) (bb : Nat → Int32) (rd_at : Int32) (rd_limit : Int32) (rd_broken : Int32) (rok : Nat → Int32) (ron : Nat → Int32) (ros : Nat → Int32) (mw : Nat → Int32) (fr_known : Int32) (fr_pc : Int32) (fr_unwound : Int32) (fv : Nat → Int32) (rk_height : Int32) (rk_hasCfa : Int32) (rk_cfa : Int32) (rk_begins : Int32) (sk : Nat → Int32) (u1 : Int32) (o : Int32 × Int32 × Int32 × Int32 × Int32 × Int32 × Int32 × (Nat → Int32)) (h : f_Fu_reckonCfa bb rd_at rd_limit rd_broken rok ron ros mw fr_known fv rk_height rk_hasCfa rk_cfa rk_begins sk u1 = some o) : Ct l y_Fu_reckonCfa b_Fu_reckonCfa 5 (some .int) { frames := 5, cells := 0, slots := 0, locals := 116 } D vwCl (xTy K) [.ref a_t, .ref a_ro, .int u1] [(a_t, .inr (10, [.ref a_se, .ref a_la, .ref a_tr, .ref a_me, .ref a_fr, .ref a_ca, .ref a_rk, .int t_lastValue])), (a_bb, .inl (K 0, 512, .inl bb)), (a_rd, .inr (5, [.ref a_bb, .int rd_at, .int rd_limit, .int rd_broken])), (a_ro, .inr (7, [.ref a_rok, .ref a_ron, .ref a_ros])), (a_rok, .inl (K 1, 9, .inl rok)), (a_ron, .inl (K 1, 9, .inl ron)), (a_ros, .inl (K 1, 9, .inl ros)), (a_me, .inr (4, [.ref a_mw])), (a_mw, .inl (K 1, 256, .inl mw)), (a_fr, .inr (1, [.ref a_fv, .int fr_known, .int fr_pc, .int fr_unwound])), (a_fv, .inl (K 1, 8, .inl fv)), (a_rk, .inr (6, [.ref a_rd, .ref a_me, .ref a_fr, .ref a_sk, .int rk_height, .int rk_hasCfa, .int rk_cfa, .int rk_begins])), (a_sk, .inl (K 1, 16, .inl sk))] (some (.int o.1)) [(a_t, .inr (10, [.ref a_se, .ref a_la, .ref a_tr, .ref a_me, .ref a_fr, .ref a_ca, .ref a_rk, .int t_lastValue])), (a_bb, .inl (K 0, 512, .inl bb)), (a_rd, .inr (5, [.ref a_bb, .int o.2.1, .int o.2.2.1, .int o.2.2.2.1])), (a_ro, .inr (7, [.ref a_rok, .ref a_ron, .ref a_ros])), (a_rok, .inl (K 1, 9, .inl rok)), (a_ron, .inl (K 1, 9, .inl ron)), (a_ros, .inl (K 1, 9, .inl ros)), (a_me, .inr (4, [.ref a_mw])), (a_mw, .inl (K 1, 256, .inl mw)), (a_fr, .inr (1, [.ref a_fv, .int fr_known, .int fr_pc, .int fr_unwound])), (a_fv, .inl (K 1, 8, .inl fv)), (a_rk, .inr (6, [.ref a_rd, .ref a_me, .ref a_fr, .ref a_sk, .int o.2.2.2.2.1, .int o.2.2.2.2.2.1, .int rk_cfa, .int o.2.2.2.2.2.2.1])), (a_sk, .inl (K 1, 16, .inl o.2.2.2.2.2.2.2))] := by
  refine Ct.ofG (by decide) (Nat.le_of_ble_eq_true rfl) ?_
  refine g_L (L' := [(0, .ref a_t), (1, .ref a_ro), (2, .int u1)]) rfl ?_
  unfold f_Fu_reckonCfa at h
  refine g_aload_n d_Fu_reckonCfa_0 rfl ?_
  refine gf_Fu_185 3 rfl (v := .ref a_ron) rfl d_Fu_reckonCfa_1 ?_
  refine g_bipush (v := 8) d_Fu_reckonCfa_4 (by decide) ?_
  obtain ⟨hi6, h⟩ := it_in h
  refine g_iald 5 1 d_Fu_reckonCfa_6 rfl rfl hi6 ?_
  refine g_istore_n (L' := [(3, .int (ron (8 : Int32).toNatClampNeg)), (0, .ref a_t), (1, .ref a_ro), (2, .int u1)]) d_Fu_reckonCfa_7 (by decide) rfl ?_
  refine g_aload_n d_Fu_reckonCfa_8 rfl ?_
  refine gf_Fu_188 3 rfl (v := .ref a_ros) rfl d_Fu_reckonCfa_9 ?_
  refine g_bipush (v := 8) d_Fu_reckonCfa_12 (by decide) ?_
  obtain ⟨hi14, h⟩ := it_in h
  refine g_iald 6 1 d_Fu_reckonCfa_14 rfl rfl hi14 ?_
  refine g_istore (L' := [(4, .int (ros (8 : Int32).toNatClampNeg)), (3, .int (ron (8 : Int32).toNatClampNeg)), (0, .ref a_t), (1, .ref a_ro), (2, .int u1)]) d_Fu_reckonCfa_15 (by decide) rfl ?_
  refine g_aload_n d_Fu_reckonCfa_17 rfl ?_
  refine gf_Fu_65 0 rfl (v := .ref a_rk) rfl d_Fu_reckonCfa_18 ?_
  obtain ⟨q21, hq21, h⟩ := it_b h
  refine g_callV (ci := 6) (q := (xR_Rk, xF_Rk, 8)) (As := []) (rest := []) (st2 := []) (ws2 := [(a_t, .inr (10, [.ref a_se, .ref a_la, .ref a_tr, .ref a_me, .ref a_fr, .ref a_ca, .ref a_rk, .int t_lastValue])), (a_bb, .inl (K 0, 512, .inl bb)), (a_rd, .inr (5, [.ref a_bb, .int rd_at, .int rd_limit, .int rd_broken])), (a_ro, .inr (7, [.ref a_rok, .ref a_ron, .ref a_ros])), (a_rok, .inl (K 1, 9, .inl rok)), (a_ron, .inl (K 1, 9, .inl ron)), (a_ros, .inl (K 1, 9, .inl ros)), (a_me, .inr (4, [.ref a_mw])), (a_mw, .inl (K 1, 256, .inl mw)), (a_fr, .inr (1, [.ref a_fv, .int fr_known, .int fr_pc, .int fr_unwound])), (a_fv, .inl (K 1, 8, .inl fv)), (a_rk, .inr (6, [.ref a_rd, .ref a_me, .ref a_fr, .ref a_sk, .int q21.1, .int q21.2, .int rk_cfa, .int rk_begins])), (a_sk, .inl (K 1, 16, .inl sk))]) (c_Rk_clear l D K a_rk a_rd a_me a_fr a_sk rk_height rk_hasCfa rk_cfa rk_begins q21 hq21) (cs_Fu_148 rfl rfl ⟨Nat.le_of_ble_eq_true rfl, Nat.le_of_ble_eq_true rfl⟩) rfl 11 rfl (gOver.mk2 [11] [none, none, none, none, none, none, none, none, none, none, none, some 0, none] (by decide) (by decide) rfl rfl rfl) (Nat.le_of_ble_eq_true rfl) ⟨Nat.le_of_ble_eq_true rfl, Nat.le_of_ble_eq_true rfl⟩ d_Fu_reckonCfa_21 rfl rfl ?_
  refine g_aload_n d_Fu_reckonCfa_24 rfl ?_
  refine gf_Fu_161 3 rfl (v := .ref a_rok) rfl d_Fu_reckonCfa_25 ?_
  refine g_bipush (v := 8) d_Fu_reckonCfa_28 (by decide) ?_
  obtain ⟨hi30, h⟩ := it_in h
  refine g_iald 4 1 d_Fu_reckonCfa_30 rfl rfl hi30 ?_
  by_cases hc31_56 : (rok (8 : Int32).toNatClampNeg) = 1
  · replace h := it_t hc31_56 h
    refine g_lookup (off := 25) (tgt := 56) d_Fu_reckonCfa_31 (by decide) (by rw [hc31_56]; decide +kernel) (by decide) ?_
    refine g_aload_n d_Fu_reckonCfa_56 rfl ?_
    refine gf_Fu_53 0 rfl (v := .ref a_fr) rfl d_Fu_reckonCfa_57 ?_
    refine g_iload d_Fu_reckonCfa_60 rfl ?_
    obtain ⟨q62, hq62, h⟩ := it_b h
    refine g_callV (ci := 1) (q := (xR_Fr, xF_Fr, 4)) (As := [.int (ros (8 : Int32).toNatClampNeg)]) (rest := []) (st2 := [.int q62]) (ws2 := [(a_t, .inr (10, [.ref a_se, .ref a_la, .ref a_tr, .ref a_me, .ref a_fr, .ref a_ca, .ref a_rk, .int t_lastValue])), (a_bb, .inl (K 0, 512, .inl bb)), (a_rd, .inr (5, [.ref a_bb, .int rd_at, .int rd_limit, .int rd_broken])), (a_ro, .inr (7, [.ref a_rok, .ref a_ron, .ref a_ros])), (a_rok, .inl (K 1, 9, .inl rok)), (a_ron, .inl (K 1, 9, .inl ron)), (a_ros, .inl (K 1, 9, .inl ros)), (a_me, .inr (4, [.ref a_mw])), (a_mw, .inl (K 1, 256, .inl mw)), (a_fr, .inr (1, [.ref a_fv, .int fr_known, .int fr_pc, .int fr_unwound])), (a_fv, .inl (K 1, 8, .inl fv)), (a_rk, .inr (6, [.ref a_rd, .ref a_me, .ref a_fr, .ref a_sk, .int q21.1, .int q21.2, .int rk_cfa, .int rk_begins])), (a_sk, .inl (K 1, 16, .inl sk))]) (c_Fr_knows l D K a_fr a_fv fr_known fr_pc fr_unwound (ros (8 : Int32).toNatClampNeg) q62 hq62) (cs_Fu_191 rfl rfl ⟨Nat.le_of_ble_eq_true rfl, Nat.le_of_ble_eq_true rfl⟩) rfl 9 rfl (gOver.rd [9] (by decide) rfl) (Nat.le_of_ble_eq_true rfl) ⟨Nat.le_of_ble_eq_true rfl, Nat.le_of_ble_eq_true rfl⟩ d_Fu_reckonCfa_62 rfl rfl ?_
    refine g_if_ne (tgt := 70) d_Fu_reckonCfa_65 (by decide) (fun hc => ?_) (fun hc => ?_)
    · replace h := it_f hc h
      refine g_aload_n d_Fu_reckonCfa_70 rfl ?_
      refine gf_Fu_65 0 rfl (v := .ref a_rk) rfl d_Fu_reckonCfa_71 ?_
      refine g_aload_n d_Fu_reckonCfa_74 rfl ?_
      refine gf_Fu_53 0 rfl (v := .ref a_fr) rfl d_Fu_reckonCfa_75 ?_
      refine gf_Fu_182 9 rfl (v := .ref a_fv) rfl d_Fu_reckonCfa_78 ?_
      refine g_iload d_Fu_reckonCfa_81 rfl ?_
      obtain ⟨hi83, h⟩ := it_in h
      refine g_iald 10 1 d_Fu_reckonCfa_83 rfl rfl hi83 ?_
      refine g_iload_n d_Fu_reckonCfa_84 rfl ?_
      refine g_iadd d_Fu_reckonCfa_85 ?_
      obtain ⟨q86, hq86, h⟩ := it_b h
      refine g_callV (ci := 6) (q := (xR_Rk, xF_Rk, 8)) (As := [.int ((fv (ros (8 : Int32).toNatClampNeg).toNatClampNeg) + (ron (8 : Int32).toNatClampNeg))]) (rest := []) (st2 := []) (ws2 := [(a_t, .inr (10, [.ref a_se, .ref a_la, .ref a_tr, .ref a_me, .ref a_fr, .ref a_ca, .ref a_rk, .int t_lastValue])), (a_bb, .inl (K 0, 512, .inl bb)), (a_rd, .inr (5, [.ref a_bb, .int rd_at, .int rd_limit, .int rd_broken])), (a_ro, .inr (7, [.ref a_rok, .ref a_ron, .ref a_ros])), (a_rok, .inl (K 1, 9, .inl rok)), (a_ron, .inl (K 1, 9, .inl ron)), (a_ros, .inl (K 1, 9, .inl ros)), (a_me, .inr (4, [.ref a_mw])), (a_mw, .inl (K 1, 256, .inl mw)), (a_fr, .inr (1, [.ref a_fv, .int fr_known, .int fr_pc, .int fr_unwound])), (a_fv, .inl (K 1, 8, .inl fv)), (a_rk, .inr (6, [.ref a_rd, .ref a_me, .ref a_fr, .ref a_sk, .int q86.1, .int q21.2, .int rk_cfa, .int rk_begins])), (a_sk, .inl (K 1, 16, .inl q86.2))]) (c_Rk_push l D K a_rk a_rd a_me a_fr a_sk q21.1 q21.2 rk_cfa rk_begins sk ((fv (ros (8 : Int32).toNatClampNeg).toNatClampNeg) + (ron (8 : Int32).toNatClampNeg)) q86 hq86) (cs_Fu_194 rfl rfl ⟨Nat.le_of_ble_eq_true rfl, Nat.le_of_ble_eq_true rfl⟩) rfl 11 rfl (gOver.mk2 [11, 12] [none, none, none, none, none, none, none, none, none, none, none, some 0, some 1] (by decide) (by decide) rfl rfl rfl) (Nat.le_of_ble_eq_true rfl) ⟨Nat.le_of_ble_eq_true rfl, Nat.le_of_ble_eq_true rfl⟩ d_Fu_reckonCfa_86 rfl rfl ?_
      refine g_iconst (v := 0) d_Fu_reckonCfa_89 (by decide) ?_
      obtain rfl := Option.some.inj h
      exact g_iret rfl d_Fu_reckonCfa_90
    · replace h := it_t hc h
      refine g_iconst (v := 4) d_Fu_reckonCfa_68 (by decide) ?_
      obtain rfl := Option.some.inj h
      exact g_iret rfl d_Fu_reckonCfa_69
  replace h := it_f hc31_56 h
  by_cases hc31_91 : (rok (8 : Int32).toNatClampNeg) = 2
  · replace h := it_t hc31_91 h
    refine g_lookup (off := 60) (tgt := 91) d_Fu_reckonCfa_31 (by decide) (by rw [hc31_91]; decide +kernel) (by decide) ?_
    refine g_aload_n d_Fu_reckonCfa_91 rfl ?_
    refine gf_Fu_65 0 rfl (v := .ref a_rk) rfl d_Fu_reckonCfa_92 ?_
    refine g_iload_n d_Fu_reckonCfa_95 rfl ?_
    refine g_iload_n d_Fu_reckonCfa_96 rfl ?_
    refine g_iload d_Fu_reckonCfa_97 rfl ?_
    refine g_iadd d_Fu_reckonCfa_99 ?_
    refine g_iload_n d_Fu_reckonCfa_100 rfl ?_
    obtain ⟨q101, hq101, h⟩ := it_b h
    refine g_callV (ci := 6) (q := (xR_Rk, xF_Rk, 8)) (As := [.int (ron (8 : Int32).toNatClampNeg), .int ((ron (8 : Int32).toNatClampNeg) + (ros (8 : Int32).toNatClampNeg)), .int u1]) (rest := []) (st2 := [.int q101.1]) (ws2 := [(a_t, .inr (10, [.ref a_se, .ref a_la, .ref a_tr, .ref a_me, .ref a_fr, .ref a_ca, .ref a_rk, .int t_lastValue])), (a_bb, .inl (K 0, 512, .inl bb)), (a_rd, .inr (5, [.ref a_bb, .int q101.2.2.2.1, .int q101.2.2.2.2.1, .int q101.2.2.2.2.2.1])), (a_ro, .inr (7, [.ref a_rok, .ref a_ron, .ref a_ros])), (a_rok, .inl (K 1, 9, .inl rok)), (a_ron, .inl (K 1, 9, .inl ron)), (a_ros, .inl (K 1, 9, .inl ros)), (a_me, .inr (4, [.ref a_mw])), (a_mw, .inl (K 1, 256, .inl mw)), (a_fr, .inr (1, [.ref a_fv, .int fr_known, .int fr_pc, .int fr_unwound])), (a_fv, .inl (K 1, 8, .inl fv)), (a_rk, .inr (6, [.ref a_rd, .ref a_me, .ref a_fr, .ref a_sk, .int q101.2.1, .int q21.2, .int rk_cfa, .int q101.2.2.1])), (a_sk, .inl (K 1, 16, .inl q101.2.2.2.2.2.2))]) (c_Rk_run l D K a_rk a_rd a_bb a_me a_mw a_fr a_fv a_sk q21.1 q21.2 rk_cfa rk_begins rd_at rd_limit rd_broken bb mw fr_known fr_pc fr_unwound fv sk (ron (8 : Int32).toNatClampNeg) ((ron (8 : Int32).toNatClampNeg) + (ros (8 : Int32).toNatClampNeg)) u1 q101 hq101) (cs_Fu_151 rfl rfl ⟨Nat.le_of_ble_eq_true rfl, Nat.le_of_ble_eq_true rfl⟩) rfl 11 rfl (gOver.mk2 [11, 2, 1, 7, 8, 9, 10, 12] [none, some 2, some 1, none, none, none, none, some 3, some 4, some 5, some 6, some 0, some 7] (by decide) (by decide) rfl rfl rfl) (Nat.le_of_ble_eq_true rfl) ⟨Nat.le_of_ble_eq_true rfl, Nat.le_of_ble_eq_true rfl⟩ d_Fu_reckonCfa_101 rfl rfl ?_
    obtain rfl := Option.some.inj h
    exact g_iret rfl d_Fu_reckonCfa_104
  replace h := it_f hc31_91 h
  refine g_lookup (off := 74) (tgt := 105) d_Fu_reckonCfa_31 (by decide) (by show Op.lookupswitch.offset _ _ _ = _; rw [lv_osw hc31_56 (by decide), lv_osw hc31_91 (by decide)]; rfl) (by decide) ?_
  refine g_bipush (v := 6) d_Fu_reckonCfa_105 (by decide) ?_
  obtain rfl := Option.some.inj h
  exact g_iret rfl d_Fu_reckonCfa_107
def f_Fu_recoverRegister (fr_known : Int32) (fv : Nat → Int32) (ca_known : Int32) (cv : Nat → Int32) (r1 : Int32) (f1 : Int32) : Option (Int32 × Int32 × (Nat → Int32)) := ((f_Fr_knows fr_known f1).bind fun q5 => if q5 = 0 then (((f_Fr_forget ca_known cv r1).bind fun q36 => some (0, q36.1, q36.2))) else (if f1 < 0 ∨ 8 ≤ f1.toNatClampNeg then none else ((f_Fr_learn ca_known cv r1 (fv f1.toNatClampNeg)).bind fun q25 => some (0, q25.1, q25.2))))
set_option maxRecDepth 100000 in
set_option maxHeartbeats 4000000 in
theorem c_Fu_recoverRegister (l : Launch) (D : va_G) (K : Nat → ClassId) (a_t a_se a_la a_tr a_me a_fr a_fv a_ca a_cv a_rk : Nat) (t_lastValue : Int32) (fr_known : Int32) (fr_pc : Int32) (fr_unwound : Int32) (fv : Nat → Int32) (ca_known : Int32) (ca_pc : Int32) (ca_unwound : Int32) (cv : Nat → Int32) (r1 : Int32) (f1 : Int32) (o : Int32 × Int32 × (Nat → Int32)) (h : f_Fu_recoverRegister fr_known fv ca_known cv r1 f1 = some o) : Ct l y_Fu_recoverRegister b_Fu_recoverRegister 3 (some .int) { frames := 1, cells := 0, slots := 0, locals := 22 } D vwCl (xTy K) [.ref a_t, .int r1, .int f1] [(a_t, .inr (10, [.ref a_se, .ref a_la, .ref a_tr, .ref a_me, .ref a_fr, .ref a_ca, .ref a_rk, .int t_lastValue])), (a_fr, .inr (1, [.ref a_fv, .int fr_known, .int fr_pc, .int fr_unwound])), (a_fv, .inl (K 1, 8, .inl fv)), (a_ca, .inr (1, [.ref a_cv, .int ca_known, .int ca_pc, .int ca_unwound])), (a_cv, .inl (K 1, 8, .inl cv))] (some (.int o.1)) [(a_t, .inr (10, [.ref a_se, .ref a_la, .ref a_tr, .ref a_me, .ref a_fr, .ref a_ca, .ref a_rk, .int t_lastValue])), (a_fr, .inr (1, [.ref a_fv, .int fr_known, .int fr_pc, .int fr_unwound])), (a_fv, .inl (K 1, 8, .inl fv)), (a_ca, .inr (1, [.ref a_cv, .int o.2.1, .int ca_pc, .int ca_unwound])), (a_cv, .inl (K 1, 8, .inl o.2.2))] := by
  refine Ct.ofG (by decide) (Nat.le_of_ble_eq_true rfl) ?_
  refine g_L (L' := [(0, .ref a_t), (1, .int r1), (2, .int f1)]) rfl ?_
  unfold f_Fu_recoverRegister at h
  refine g_aload_n d_Fu_recoverRegister_0 rfl ?_
  refine gf_Fu_53 0 rfl (v := .ref a_fr) rfl d_Fu_recoverRegister_1 ?_
  refine g_iload_n d_Fu_recoverRegister_4 rfl ?_
  obtain ⟨q5, hq5, h⟩ := it_b h
  refine g_callV (ci := 1) (q := (xR_Fr, xF_Fr, 4)) (As := [.int f1]) (rest := []) (st2 := [.int q5]) (ws2 := [(a_t, .inr (10, [.ref a_se, .ref a_la, .ref a_tr, .ref a_me, .ref a_fr, .ref a_ca, .ref a_rk, .int t_lastValue])), (a_fr, .inr (1, [.ref a_fv, .int fr_known, .int fr_pc, .int fr_unwound])), (a_fv, .inl (K 1, 8, .inl fv)), (a_ca, .inr (1, [.ref a_cv, .int ca_known, .int ca_pc, .int ca_unwound])), (a_cv, .inl (K 1, 8, .inl cv))]) (c_Fr_knows l D K a_fr a_fv fr_known fr_pc fr_unwound f1 q5 hq5) (cs_Fu_191 rfl rfl ⟨Nat.le_of_ble_eq_true rfl, Nat.le_of_ble_eq_true rfl⟩) rfl 1 rfl (gOver.rd [1] (by decide) rfl) (Nat.le_of_ble_eq_true rfl) ⟨Nat.le_of_ble_eq_true rfl, Nat.le_of_ble_eq_true rfl⟩ d_Fu_recoverRegister_5 rfl rfl ?_
  refine g_if_eq (tgt := 31) d_Fu_recoverRegister_8 (by decide) (fun hc => ?_) (fun hc => ?_)
  · replace h := it_t hc h
    refine g_aload_n d_Fu_recoverRegister_31 rfl ?_
    refine gf_Fu_57 0 rfl (v := .ref a_ca) rfl d_Fu_recoverRegister_32 ?_
    refine g_iload_n d_Fu_recoverRegister_35 rfl ?_
    obtain ⟨q36, hq36, h⟩ := it_b h
    refine g_callV (ci := 1) (q := (xR_Fr, xF_Fr, 4)) (As := [.int r1]) (rest := []) (st2 := []) (ws2 := [(a_t, .inr (10, [.ref a_se, .ref a_la, .ref a_tr, .ref a_me, .ref a_fr, .ref a_ca, .ref a_rk, .int t_lastValue])), (a_fr, .inr (1, [.ref a_fv, .int fr_known, .int fr_pc, .int fr_unwound])), (a_fv, .inl (K 1, 8, .inl fv)), (a_ca, .inr (1, [.ref a_cv, .int q36.1, .int ca_pc, .int ca_unwound])), (a_cv, .inl (K 1, 8, .inl q36.2))]) (c_Fr_forget l D K a_ca a_cv ca_known ca_pc ca_unwound cv r1 q36 hq36) (cs_Fu_209 rfl rfl ⟨Nat.le_of_ble_eq_true rfl, Nat.le_of_ble_eq_true rfl⟩) rfl 3 rfl (gOver.mk2 [3, 4] [none, none, none, some 0, some 1] (by decide) (by decide) rfl rfl rfl) (Nat.le_of_ble_eq_true rfl) ⟨Nat.le_of_ble_eq_true rfl, Nat.le_of_ble_eq_true rfl⟩ d_Fu_recoverRegister_36 rfl rfl ?_
    refine g_iconst (v := 0) d_Fu_recoverRegister_39 (by decide) ?_
    obtain rfl := Option.some.inj h
    exact g_iret rfl d_Fu_recoverRegister_40
  · replace h := it_f hc h
    refine g_aload_n d_Fu_recoverRegister_11 rfl ?_
    refine gf_Fu_57 0 rfl (v := .ref a_ca) rfl d_Fu_recoverRegister_12 ?_
    refine g_iload_n d_Fu_recoverRegister_15 rfl ?_
    refine g_aload_n d_Fu_recoverRegister_16 rfl ?_
    refine gf_Fu_53 0 rfl (v := .ref a_fr) rfl d_Fu_recoverRegister_17 ?_
    refine gf_Fu_182 1 rfl (v := .ref a_fv) rfl d_Fu_recoverRegister_20 ?_
    refine g_iload_n d_Fu_recoverRegister_23 rfl ?_
    obtain ⟨hi24, h⟩ := it_in h
    refine g_iald 2 1 d_Fu_recoverRegister_24 rfl rfl hi24 ?_
    obtain ⟨q25, hq25, h⟩ := it_b h
    refine g_callV (ci := 1) (q := (xR_Fr, xF_Fr, 4)) (As := [.int r1, .int (fv f1.toNatClampNeg)]) (rest := []) (st2 := []) (ws2 := [(a_t, .inr (10, [.ref a_se, .ref a_la, .ref a_tr, .ref a_me, .ref a_fr, .ref a_ca, .ref a_rk, .int t_lastValue])), (a_fr, .inr (1, [.ref a_fv, .int fr_known, .int fr_pc, .int fr_unwound])), (a_fv, .inl (K 1, 8, .inl fv)), (a_ca, .inr (1, [.ref a_cv, .int q25.1, .int ca_pc, .int ca_unwound])), (a_cv, .inl (K 1, 8, .inl q25.2))]) (c_Fr_learn l D K a_ca a_cv ca_known ca_pc ca_unwound cv r1 (fv f1.toNatClampNeg) q25 hq25) (cs_Fu_136 rfl rfl ⟨Nat.le_of_ble_eq_true rfl, Nat.le_of_ble_eq_true rfl⟩) rfl 3 rfl (gOver.mk2 [3, 4] [none, none, none, some 0, some 1] (by decide) (by decide) rfl rfl rfl) (Nat.le_of_ble_eq_true rfl) ⟨Nat.le_of_ble_eq_true rfl, Nat.le_of_ble_eq_true rfl⟩ d_Fu_recoverRegister_25 rfl rfl ?_
    refine g_goto (tgt := 39) d_Fu_recoverRegister_28 (by decide) ?_
    refine g_iconst (v := 0) d_Fu_recoverRegister_39 (by decide) ?_
    obtain rfl := Option.some.inj h
    exact g_iret rfl d_Fu_recoverRegister_40
def f_Fu_recoverWord (mw : Nat → Int32) (ca_known : Int32) (cv : Nat → Int32) (r1 : Int32) (a1 : Int32) : Option (Int32 × Int32 × (Nat → Int32)) := ((f_Me_has a1).bind fun q5 => if q5 = 0 then (some (4, ca_known, cv)) else (((f_Me_load mw a1).bind fun q23 => ((f_Fr_learn ca_known cv r1 q23).bind fun q26 => some (0, q26.1, q26.2)))))
set_option maxRecDepth 100000 in
set_option maxHeartbeats 4000000 in
theorem c_Fu_recoverWord (l : Launch) (D : va_G) (K : Nat → ClassId) (a_t a_se a_la a_tr a_me a_mw a_fr a_ca a_cv a_rk : Nat) (t_lastValue : Int32) (mw : Nat → Int32) (ca_known : Int32) (ca_pc : Int32) (ca_unwound : Int32) (cv : Nat → Int32) (r1 : Int32) (a1 : Int32) (o : Int32 × Int32 × (Nat → Int32)) (h : f_Fu_recoverWord mw ca_known cv r1 a1 = some o) : Ct l y_Fu_recoverWord b_Fu_recoverWord 3 (some .int) { frames := 1, cells := 0, slots := 0, locals := 22 } D vwCl (xTy K) [.ref a_t, .int r1, .int a1] [(a_t, .inr (10, [.ref a_se, .ref a_la, .ref a_tr, .ref a_me, .ref a_fr, .ref a_ca, .ref a_rk, .int t_lastValue])), (a_me, .inr (4, [.ref a_mw])), (a_mw, .inl (K 1, 256, .inl mw)), (a_ca, .inr (1, [.ref a_cv, .int ca_known, .int ca_pc, .int ca_unwound])), (a_cv, .inl (K 1, 8, .inl cv))] (some (.int o.1)) [(a_t, .inr (10, [.ref a_se, .ref a_la, .ref a_tr, .ref a_me, .ref a_fr, .ref a_ca, .ref a_rk, .int t_lastValue])), (a_me, .inr (4, [.ref a_mw])), (a_mw, .inl (K 1, 256, .inl mw)), (a_ca, .inr (1, [.ref a_cv, .int o.2.1, .int ca_pc, .int ca_unwound])), (a_cv, .inl (K 1, 8, .inl o.2.2))] := by
  refine Ct.ofG (by decide) (Nat.le_of_ble_eq_true rfl) ?_
  refine g_L (L' := [(0, .ref a_t), (1, .int r1), (2, .int a1)]) rfl ?_
  unfold f_Fu_recoverWord at h
  refine g_aload_n d_Fu_recoverWord_0 rfl ?_
  refine gf_Fu_46 0 rfl (v := .ref a_me) rfl d_Fu_recoverWord_1 ?_
  refine g_iload_n d_Fu_recoverWord_4 rfl ?_
  obtain ⟨q5, hq5, h⟩ := it_b h
  refine g_callV (ci := 4) (q := (xR_Me, xF_Me, 1)) (As := [.int a1]) (rest := []) (st2 := [.int q5]) (ws2 := [(a_t, .inr (10, [.ref a_se, .ref a_la, .ref a_tr, .ref a_me, .ref a_fr, .ref a_ca, .ref a_rk, .int t_lastValue])), (a_me, .inr (4, [.ref a_mw])), (a_mw, .inl (K 1, 256, .inl mw)), (a_ca, .inr (1, [.ref a_cv, .int ca_known, .int ca_pc, .int ca_unwound])), (a_cv, .inl (K 1, 8, .inl cv))]) (c_Me_has l D K a_me a1 q5 hq5) (cs_Fu_128 rfl rfl ⟨Nat.le_of_ble_eq_true rfl, Nat.le_of_ble_eq_true rfl⟩) rfl 1 rfl (gOver.rd [] (by decide) rfl) (Nat.le_of_ble_eq_true rfl) ⟨Nat.le_of_ble_eq_true rfl, Nat.le_of_ble_eq_true rfl⟩ d_Fu_recoverWord_5 rfl rfl ?_
  refine g_if_ne (tgt := 13) d_Fu_recoverWord_8 (by decide) (fun hc => ?_) (fun hc => ?_)
  · replace h := it_f hc h
    refine g_aload_n d_Fu_recoverWord_13 rfl ?_
    refine gf_Fu_57 0 rfl (v := .ref a_ca) rfl d_Fu_recoverWord_14 ?_
    refine g_iload_n d_Fu_recoverWord_17 rfl ?_
    refine g_aload_n d_Fu_recoverWord_18 rfl ?_
    refine gf_Fu_46 0 rfl (v := .ref a_me) rfl d_Fu_recoverWord_19 ?_
    refine g_iload_n d_Fu_recoverWord_22 rfl ?_
    obtain ⟨q23, hq23, h⟩ := it_b h
    refine g_callV (ci := 4) (q := (xR_Me, xF_Me, 1)) (As := [.int a1]) (rest := [.int r1, .ref a_ca]) (st2 := [.int q23, .int r1, .ref a_ca]) (ws2 := [(a_t, .inr (10, [.ref a_se, .ref a_la, .ref a_tr, .ref a_me, .ref a_fr, .ref a_ca, .ref a_rk, .int t_lastValue])), (a_me, .inr (4, [.ref a_mw])), (a_mw, .inl (K 1, 256, .inl mw)), (a_ca, .inr (1, [.ref a_cv, .int ca_known, .int ca_pc, .int ca_unwound])), (a_cv, .inl (K 1, 8, .inl cv))]) (c_Me_load l D K a_me a_mw mw a1 q23 hq23) (cs_Fu_212 rfl rfl ⟨Nat.le_of_ble_eq_true rfl, Nat.le_of_ble_eq_true rfl⟩) rfl 1 rfl (gOver.rd [1, 2] (by decide) rfl) (Nat.le_of_ble_eq_true rfl) ⟨Nat.le_of_ble_eq_true rfl, Nat.le_of_ble_eq_true rfl⟩ d_Fu_recoverWord_23 rfl rfl ?_
    obtain ⟨q26, hq26, h⟩ := it_b h
    refine g_callV (ci := 1) (q := (xR_Fr, xF_Fr, 4)) (As := [.int r1, .int q23]) (rest := []) (st2 := []) (ws2 := [(a_t, .inr (10, [.ref a_se, .ref a_la, .ref a_tr, .ref a_me, .ref a_fr, .ref a_ca, .ref a_rk, .int t_lastValue])), (a_me, .inr (4, [.ref a_mw])), (a_mw, .inl (K 1, 256, .inl mw)), (a_ca, .inr (1, [.ref a_cv, .int q26.1, .int ca_pc, .int ca_unwound])), (a_cv, .inl (K 1, 8, .inl q26.2))]) (c_Fr_learn l D K a_ca a_cv ca_known ca_pc ca_unwound cv r1 q23 q26 hq26) (cs_Fu_136 rfl rfl ⟨Nat.le_of_ble_eq_true rfl, Nat.le_of_ble_eq_true rfl⟩) rfl 3 rfl (gOver.mk2 [3, 4] [none, none, none, some 0, some 1] (by decide) (by decide) rfl rfl rfl) (Nat.le_of_ble_eq_true rfl) ⟨Nat.le_of_ble_eq_true rfl, Nat.le_of_ble_eq_true rfl⟩ d_Fu_recoverWord_26 rfl rfl ?_
    refine g_iconst (v := 0) d_Fu_recoverWord_29 (by decide) ?_
    obtain rfl := Option.some.inj h
    exact g_iret rfl d_Fu_recoverWord_30
  · replace h := it_t hc h
    refine g_iconst (v := 4) d_Fu_recoverWord_11 (by decide) ?_
    obtain rfl := Option.some.inj h
    exact g_iret rfl d_Fu_recoverWord_12
def f_Fu_recoverReckoned (mw : Nat → Int32) (ca_known : Int32) (cv : Nat → Int32) (rk_height : Int32) (sk : Nat → Int32) (r1 : Int32) (k1 : Int32) : Option (Int32 × Int32 × (Nat → Int32)) := if k1 = 5 then (((f_Rk_top rk_height sk).bind fun q11 => ((f_Fu_recoverWord mw ca_known cv r1 q11).bind fun q14 => some (q14.1, q14.2.1, q14.2.2)))) else (((f_Rk_top rk_height sk).bind fun q27 => ((f_Fr_learn ca_known cv r1 q27).bind fun q30 => some (0, q30.1, q30.2))))
set_option maxRecDepth 100000 in
set_option maxHeartbeats 4000000 in
theorem c_Fu_recoverReckoned (l : Launch) (D : va_G) (K : Nat → ClassId) (a_t a_se a_rd a_la a_tr a_me a_mw a_fr a_ca a_cv a_rk a_sk : Nat) (t_lastValue : Int32) (mw : Nat → Int32) (ca_known : Int32) (ca_pc : Int32) (ca_unwound : Int32) (cv : Nat → Int32) (rk_height : Int32) (rk_hasCfa : Int32) (rk_cfa : Int32) (rk_begins : Int32) (sk : Nat → Int32) (r1 : Int32) (k1 : Int32) (o : Int32 × Int32 × (Nat → Int32)) (h : f_Fu_recoverReckoned mw ca_known cv rk_height sk r1 k1 = some o) : Ct l y_Fu_recoverReckoned b_Fu_recoverReckoned 3 (some .int) { frames := 2, cells := 0, slots := 0, locals := 44 } D vwCl (xTy K) [.ref a_t, .int r1, .int k1] [(a_t, .inr (10, [.ref a_se, .ref a_la, .ref a_tr, .ref a_me, .ref a_fr, .ref a_ca, .ref a_rk, .int t_lastValue])), (a_me, .inr (4, [.ref a_mw])), (a_mw, .inl (K 1, 256, .inl mw)), (a_ca, .inr (1, [.ref a_cv, .int ca_known, .int ca_pc, .int ca_unwound])), (a_cv, .inl (K 1, 8, .inl cv)), (a_rk, .inr (6, [.ref a_rd, .ref a_me, .ref a_fr, .ref a_sk, .int rk_height, .int rk_hasCfa, .int rk_cfa, .int rk_begins])), (a_sk, .inl (K 1, 16, .inl sk))] (some (.int o.1)) [(a_t, .inr (10, [.ref a_se, .ref a_la, .ref a_tr, .ref a_me, .ref a_fr, .ref a_ca, .ref a_rk, .int t_lastValue])), (a_me, .inr (4, [.ref a_mw])), (a_mw, .inl (K 1, 256, .inl mw)), (a_ca, .inr (1, [.ref a_cv, .int o.2.1, .int ca_pc, .int ca_unwound])), (a_cv, .inl (K 1, 8, .inl o.2.2)), (a_rk, .inr (6, [.ref a_rd, .ref a_me, .ref a_fr, .ref a_sk, .int rk_height, .int rk_hasCfa, .int rk_cfa, .int rk_begins])), (a_sk, .inl (K 1, 16, .inl sk))] := by
  refine Ct.ofG (by decide) (Nat.le_of_ble_eq_true rfl) ?_
  refine g_L (L' := [(0, .ref a_t), (1, .int r1), (2, .int k1)]) rfl ?_
  unfold f_Fu_recoverReckoned at h
  refine g_iload_n d_Fu_recoverReckoned_0 rfl ?_
  refine g_iconst (v := 5) d_Fu_recoverReckoned_1 (by decide) ?_
  refine g_icmp_ne (tgt := 18) d_Fu_recoverReckoned_2 (by decide) (fun hc => ?_) (fun hc => ?_)
  · replace h := it_f hc h
    refine g_aload_n d_Fu_recoverReckoned_18 rfl ?_
    refine gf_Fu_57 0 rfl (v := .ref a_ca) rfl d_Fu_recoverReckoned_19 ?_
    refine g_iload_n d_Fu_recoverReckoned_22 rfl ?_
    refine g_aload_n d_Fu_recoverReckoned_23 rfl ?_
    refine gf_Fu_65 0 rfl (v := .ref a_rk) rfl d_Fu_recoverReckoned_24 ?_
    obtain ⟨q27, hq27, h⟩ := it_b h
    refine g_callV (ci := 6) (q := (xR_Rk, xF_Rk, 8)) (As := []) (rest := [.int r1, .ref a_ca]) (st2 := [.int q27, .int r1, .ref a_ca]) (ws2 := [(a_t, .inr (10, [.ref a_se, .ref a_la, .ref a_tr, .ref a_me, .ref a_fr, .ref a_ca, .ref a_rk, .int t_lastValue])), (a_me, .inr (4, [.ref a_mw])), (a_mw, .inl (K 1, 256, .inl mw)), (a_ca, .inr (1, [.ref a_cv, .int ca_known, .int ca_pc, .int ca_unwound])), (a_cv, .inl (K 1, 8, .inl cv)), (a_rk, .inr (6, [.ref a_rd, .ref a_me, .ref a_fr, .ref a_sk, .int rk_height, .int rk_hasCfa, .int rk_cfa, .int rk_begins])), (a_sk, .inl (K 1, 16, .inl sk))]) (c_Rk_top l D K a_rk a_rd a_me a_fr a_sk rk_height rk_hasCfa rk_cfa rk_begins sk q27 hq27) (cs_Fu_155 rfl rfl ⟨Nat.le_of_ble_eq_true rfl, Nat.le_of_ble_eq_true rfl⟩) rfl 5 rfl (gOver.rd [5, 6] (by decide) rfl) (Nat.le_of_ble_eq_true rfl) ⟨Nat.le_of_ble_eq_true rfl, Nat.le_of_ble_eq_true rfl⟩ d_Fu_recoverReckoned_27 rfl rfl ?_
    obtain ⟨q30, hq30, h⟩ := it_b h
    refine g_callV (ci := 1) (q := (xR_Fr, xF_Fr, 4)) (As := [.int r1, .int q27]) (rest := []) (st2 := []) (ws2 := [(a_t, .inr (10, [.ref a_se, .ref a_la, .ref a_tr, .ref a_me, .ref a_fr, .ref a_ca, .ref a_rk, .int t_lastValue])), (a_me, .inr (4, [.ref a_mw])), (a_mw, .inl (K 1, 256, .inl mw)), (a_ca, .inr (1, [.ref a_cv, .int q30.1, .int ca_pc, .int ca_unwound])), (a_cv, .inl (K 1, 8, .inl q30.2)), (a_rk, .inr (6, [.ref a_rd, .ref a_me, .ref a_fr, .ref a_sk, .int rk_height, .int rk_hasCfa, .int rk_cfa, .int rk_begins])), (a_sk, .inl (K 1, 16, .inl sk))]) (c_Fr_learn l D K a_ca a_cv ca_known ca_pc ca_unwound cv r1 q27 q30 hq30) (cs_Fu_136 rfl rfl ⟨Nat.le_of_ble_eq_true rfl, Nat.le_of_ble_eq_true rfl⟩) rfl 3 rfl (gOver.mk2 [3, 4] [none, none, none, some 0, some 1, none, none] (by decide) (by decide) rfl rfl rfl) (Nat.le_of_ble_eq_true rfl) ⟨Nat.le_of_ble_eq_true rfl, Nat.le_of_ble_eq_true rfl⟩ d_Fu_recoverReckoned_30 rfl rfl ?_
    refine g_iconst (v := 0) d_Fu_recoverReckoned_33 (by decide) ?_
    obtain rfl := Option.some.inj h
    exact g_iret rfl d_Fu_recoverReckoned_34
  · replace h := it_t hc h
    refine g_aload_n d_Fu_recoverReckoned_5 rfl ?_
    refine g_iload_n d_Fu_recoverReckoned_6 rfl ?_
    refine g_aload_n d_Fu_recoverReckoned_7 rfl ?_
    refine gf_Fu_65 0 rfl (v := .ref a_rk) rfl d_Fu_recoverReckoned_8 ?_
    obtain ⟨q11, hq11, h⟩ := it_b h
    refine g_callV (ci := 6) (q := (xR_Rk, xF_Rk, 8)) (As := []) (rest := [.int r1, .ref a_t]) (st2 := [.int q11, .int r1, .ref a_t]) (ws2 := [(a_t, .inr (10, [.ref a_se, .ref a_la, .ref a_tr, .ref a_me, .ref a_fr, .ref a_ca, .ref a_rk, .int t_lastValue])), (a_me, .inr (4, [.ref a_mw])), (a_mw, .inl (K 1, 256, .inl mw)), (a_ca, .inr (1, [.ref a_cv, .int ca_known, .int ca_pc, .int ca_unwound])), (a_cv, .inl (K 1, 8, .inl cv)), (a_rk, .inr (6, [.ref a_rd, .ref a_me, .ref a_fr, .ref a_sk, .int rk_height, .int rk_hasCfa, .int rk_cfa, .int rk_begins])), (a_sk, .inl (K 1, 16, .inl sk))]) (c_Rk_top l D K a_rk a_rd a_me a_fr a_sk rk_height rk_hasCfa rk_cfa rk_begins sk q11 hq11) (cs_Fu_155 rfl rfl ⟨Nat.le_of_ble_eq_true rfl, Nat.le_of_ble_eq_true rfl⟩) rfl 5 rfl (gOver.rd [5, 6] (by decide) rfl) (Nat.le_of_ble_eq_true rfl) ⟨Nat.le_of_ble_eq_true rfl, Nat.le_of_ble_eq_true rfl⟩ d_Fu_recoverReckoned_11 rfl rfl ?_
    obtain ⟨q14, hq14, h⟩ := it_b h
    refine g_callV (ci := 10) (q := (xR_Fu, xF_Fu, 8)) (As := [.int r1, .int q11]) (rest := []) (st2 := [.int q14.1]) (ws2 := [(a_t, .inr (10, [.ref a_se, .ref a_la, .ref a_tr, .ref a_me, .ref a_fr, .ref a_ca, .ref a_rk, .int t_lastValue])), (a_me, .inr (4, [.ref a_mw])), (a_mw, .inl (K 1, 256, .inl mw)), (a_ca, .inr (1, [.ref a_cv, .int q14.2.1, .int ca_pc, .int ca_unwound])), (a_cv, .inl (K 1, 8, .inl q14.2.2)), (a_rk, .inr (6, [.ref a_rd, .ref a_me, .ref a_fr, .ref a_sk, .int rk_height, .int rk_hasCfa, .int rk_cfa, .int rk_begins])), (a_sk, .inl (K 1, 16, .inl sk))]) (c_Fu_recoverWord l D K a_t a_se a_la a_tr a_me a_mw a_fr a_ca a_cv a_rk t_lastValue mw ca_known ca_pc ca_unwound cv r1 q11 q14 hq14) (cs_Fu_200 rfl rfl ⟨Nat.le_of_ble_eq_true rfl, Nat.le_of_ble_eq_true rfl⟩) rfl 0 rfl (gOver.mk2 [0, 1, 2, 3, 4] [some 0, some 1, some 2, some 3, some 4, none, none] (by decide) (by decide) rfl rfl rfl) (Nat.le_of_ble_eq_true rfl) ⟨Nat.le_of_ble_eq_true rfl, Nat.le_of_ble_eq_true rfl⟩ d_Fu_recoverReckoned_14 rfl rfl ?_
    obtain rfl := Option.some.inj h
    exact g_iret rfl d_Fu_recoverReckoned_17
def f_Fu_recover (bb : Nat → Int32) (rd_at : Int32) (rd_limit : Int32) (rd_broken : Int32) (rok : Nat → Int32) (ron : Nat → Int32) (ros : Nat → Int32) (mw : Nat → Int32) (fr_known : Int32) (fv : Nat → Int32) (ca_known : Int32) (cv : Nat → Int32) (rk_height : Int32) (rk_hasCfa : Int32) (rk_cfa : Int32) (rk_begins : Int32) (sk : Nat → Int32) (r1 : Int32) (c1 : Int32) (u1 : Int32) : Option (Int32 × Int32 × Int32 × Int32 × Int32 × (Nat → Int32) × Int32 × Int32 × Int32 × Int32 × (Nat → Int32)) := if r1 < 0 ∨ 9 ≤ r1.toNatClampNeg then none else if r1 < 0 ∨ 9 ≤ r1.toNatClampNeg then none else if (rok r1.toNatClampNeg) = 1 then (((f_Fu_recoverRegister fr_known fv ca_known cv r1 r1).bind fun q55 => some (q55.1, rd_at, rd_limit, rd_broken, q55.2.1, q55.2.2, rk_height, rk_hasCfa, rk_cfa, rk_begins, sk))) else if (rok r1.toNatClampNeg) = 2 then (((f_Fu_recoverWord mw ca_known cv r1 (c1 + (ron r1.toNatClampNeg))).bind fun q65 => some (q65.1, rd_at, rd_limit, rd_broken, q65.2.1, q65.2.2, rk_height, rk_hasCfa, rk_cfa, rk_begins, sk))) else if (rok r1.toNatClampNeg) = 3 then (((f_Fr_learn ca_known cv r1 (c1 + (ron r1.toNatClampNeg))).bind fun q78 => some (0, rd_at, rd_limit, rd_broken, q78.1, q78.2, rk_height, rk_hasCfa, rk_cfa, rk_begins, sk))) else if (rok r1.toNatClampNeg) = 4 then (((f_Fu_recoverRegister fr_known fv ca_known cv r1 (ron r1.toNatClampNeg)).bind fun q87 => some (q87.1, rd_at, rd_limit, rd_broken, q87.2.1, q87.2.2, rk_height, rk_hasCfa, rk_cfa, rk_begins, sk))) else if (rok r1.toNatClampNeg) = 5 ∨ (rok r1.toNatClampNeg) = 6 then (((f_Rk_clear rk_height rk_hasCfa).bind fun q95 => ((f_Rk_giveCfa q95.1 q95.2 rk_cfa sk c1).bind fun q103 => if r1 < 0 ∨ 9 ≤ r1.toNatClampNeg then none else ((f_Rk_run q103.1 q103.2.1 q103.2.2.1 rk_begins rd_at rd_limit rd_broken bb mw fr_known fv q103.2.2.2 (ron r1.toNatClampNeg) ((ron r1.toNatClampNeg) + (ros r1.toNatClampNeg)) u1).bind fun q123 => if q123.1 = 0 then (if r1 < 0 ∨ 9 ≤ r1.toNatClampNeg then none else ((f_Fu_recoverReckoned mw ca_known cv q123.2.1 q123.2.2.2.2.2.2 r1 (rok r1.toNatClampNeg)).bind fun q141 => some (q141.1, q123.2.2.2.1, q123.2.2.2.2.1, q123.2.2.2.2.2.1, q141.2.1, q141.2.2, q123.2.1, q103.2.1, q103.2.2.1, q123.2.2.1, q123.2.2.2.2.2.2))) else (some (q123.1, q123.2.2.2.1, q123.2.2.2.2.1, q123.2.2.2.2.2.1, ca_known, cv, q123.2.1, q103.2.1, q103.2.2.1, q123.2.2.1, q123.2.2.2.2.2.2)))))) else ((f_Fr_forget ca_known cv r1).bind fun q155 => some (0, rd_at, rd_limit, rd_broken, q155.1, q155.2, rk_height, rk_hasCfa, rk_cfa, rk_begins, sk))
set_option maxRecDepth 100000 in
set_option maxHeartbeats 4000000 in
theorem c_Fu_recover (l : Launch) (D : va_G) (K : Nat → ClassId) (a_t a_se a_bb a_rd a_la a_tr a_ro a_rok a_ron a_ros a_me a_mw a_fr a_fv a_ca a_cv a_rk a_sk : Nat) (t_lastValue : Int32) (bb : Nat → Int32) (rd_at : Int32) (rd_limit : Int32) (rd_broken : Int32) (rok : Nat → Int32) (ron : Nat → Int32) (ros : Nat → Int32) (mw : Nat → Int32) (fr_known : Int32) (fr_pc : Int32) (fr_unwound : Int32) (fv : Nat → Int32) (ca_known : Int32) (ca_pc : Int32) (ca_unwound : Int32) (cv : Nat → Int32) (rk_height : Int32) (rk_hasCfa : Int32) (rk_cfa : Int32) (rk_begins : Int32) (sk : Nat → Int32) (r1 : Int32) (c1 : Int32) (u1 : Int32) (o : Int32 × Int32 × Int32 × Int32 × Int32 × (Nat → Int32) × Int32 × Int32 × Int32 × Int32 × (Nat → Int32)) (h : f_Fu_recover bb rd_at rd_limit rd_broken rok ron ros mw fr_known fv ca_known cv rk_height rk_hasCfa rk_cfa rk_begins sk r1 c1 u1 = some o) : Ct l y_Fu_recover b_Fu_recover 7 (some .int) { frames := 5, cells := 0, slots := 0, locals := 116 } D vwCl (xTy K) [.ref a_t, .ref a_ro, .int r1, .int c1, .int u1] [(a_t, .inr (10, [.ref a_se, .ref a_la, .ref a_tr, .ref a_me, .ref a_fr, .ref a_ca, .ref a_rk, .int t_lastValue])), (a_bb, .inl (K 0, 512, .inl bb)), (a_rd, .inr (5, [.ref a_bb, .int rd_at, .int rd_limit, .int rd_broken])), (a_ro, .inr (7, [.ref a_rok, .ref a_ron, .ref a_ros])), (a_rok, .inl (K 1, 9, .inl rok)), (a_ron, .inl (K 1, 9, .inl ron)), (a_ros, .inl (K 1, 9, .inl ros)), (a_me, .inr (4, [.ref a_mw])), (a_mw, .inl (K 1, 256, .inl mw)), (a_fr, .inr (1, [.ref a_fv, .int fr_known, .int fr_pc, .int fr_unwound])), (a_fv, .inl (K 1, 8, .inl fv)), (a_ca, .inr (1, [.ref a_cv, .int ca_known, .int ca_pc, .int ca_unwound])), (a_cv, .inl (K 1, 8, .inl cv)), (a_rk, .inr (6, [.ref a_rd, .ref a_me, .ref a_fr, .ref a_sk, .int rk_height, .int rk_hasCfa, .int rk_cfa, .int rk_begins])), (a_sk, .inl (K 1, 16, .inl sk))] (some (.int o.1)) [(a_t, .inr (10, [.ref a_se, .ref a_la, .ref a_tr, .ref a_me, .ref a_fr, .ref a_ca, .ref a_rk, .int t_lastValue])), (a_bb, .inl (K 0, 512, .inl bb)), (a_rd, .inr (5, [.ref a_bb, .int o.2.1, .int o.2.2.1, .int o.2.2.2.1])), (a_ro, .inr (7, [.ref a_rok, .ref a_ron, .ref a_ros])), (a_rok, .inl (K 1, 9, .inl rok)), (a_ron, .inl (K 1, 9, .inl ron)), (a_ros, .inl (K 1, 9, .inl ros)), (a_me, .inr (4, [.ref a_mw])), (a_mw, .inl (K 1, 256, .inl mw)), (a_fr, .inr (1, [.ref a_fv, .int fr_known, .int fr_pc, .int fr_unwound])), (a_fv, .inl (K 1, 8, .inl fv)), (a_ca, .inr (1, [.ref a_cv, .int o.2.2.2.2.1, .int ca_pc, .int ca_unwound])), (a_cv, .inl (K 1, 8, .inl o.2.2.2.2.2.1)), (a_rk, .inr (6, [.ref a_rd, .ref a_me, .ref a_fr, .ref a_sk, .int o.2.2.2.2.2.2.1, .int o.2.2.2.2.2.2.2.1, .int o.2.2.2.2.2.2.2.2.1, .int o.2.2.2.2.2.2.2.2.2.1])), (a_sk, .inl (K 1, 16, .inl o.2.2.2.2.2.2.2.2.2.2))] := by
  refine Ct.ofG (by decide) (Nat.le_of_ble_eq_true rfl) ?_
  refine g_L (L' := [(0, .ref a_t), (1, .ref a_ro), (2, .int r1), (3, .int c1), (4, .int u1)]) rfl ?_
  unfold f_Fu_recover at h
  refine g_aload_n d_Fu_recover_0 rfl ?_
  refine gf_Fu_185 3 rfl (v := .ref a_ron) rfl d_Fu_recover_1 ?_
  refine g_iload_n d_Fu_recover_4 rfl ?_
  obtain ⟨hi5, h⟩ := it_in h
  refine g_iald 5 1 d_Fu_recover_5 rfl rfl hi5 ?_
  refine g_istore (L' := [(5, .int (ron r1.toNatClampNeg)), (0, .ref a_t), (1, .ref a_ro), (2, .int r1), (3, .int c1), (4, .int u1)]) d_Fu_recover_6 (by decide) rfl ?_
  refine g_aload_n d_Fu_recover_8 rfl ?_
  refine gf_Fu_161 3 rfl (v := .ref a_rok) rfl d_Fu_recover_9 ?_
  refine g_iload_n d_Fu_recover_12 rfl ?_
  obtain ⟨hi13, h⟩ := it_in h
  refine g_iald 4 1 d_Fu_recover_13 rfl rfl hi13 ?_
  by_cases hc14_52 : (rok r1.toNatClampNeg) = 1
  · replace h := it_t hc14_52 h
    refine g_table (off := 38) (tgt := 52) d_Fu_recover_14 (by decide) (by rw [hc14_52]; decide +kernel) (by decide) ?_
    refine g_aload_n d_Fu_recover_52 rfl ?_
    refine g_iload_n d_Fu_recover_53 rfl ?_
    refine g_iload_n d_Fu_recover_54 rfl ?_
    obtain ⟨q55, hq55, h⟩ := it_b h
    refine g_callV (ci := 10) (q := (xR_Fu, xF_Fu, 8)) (As := [.int r1, .int r1]) (rest := []) (st2 := [.int q55.1]) (ws2 := [(a_t, .inr (10, [.ref a_se, .ref a_la, .ref a_tr, .ref a_me, .ref a_fr, .ref a_ca, .ref a_rk, .int t_lastValue])), (a_bb, .inl (K 0, 512, .inl bb)), (a_rd, .inr (5, [.ref a_bb, .int rd_at, .int rd_limit, .int rd_broken])), (a_ro, .inr (7, [.ref a_rok, .ref a_ron, .ref a_ros])), (a_rok, .inl (K 1, 9, .inl rok)), (a_ron, .inl (K 1, 9, .inl ron)), (a_ros, .inl (K 1, 9, .inl ros)), (a_me, .inr (4, [.ref a_mw])), (a_mw, .inl (K 1, 256, .inl mw)), (a_fr, .inr (1, [.ref a_fv, .int fr_known, .int fr_pc, .int fr_unwound])), (a_fv, .inl (K 1, 8, .inl fv)), (a_ca, .inr (1, [.ref a_cv, .int q55.2.1, .int ca_pc, .int ca_unwound])), (a_cv, .inl (K 1, 8, .inl q55.2.2)), (a_rk, .inr (6, [.ref a_rd, .ref a_me, .ref a_fr, .ref a_sk, .int rk_height, .int rk_hasCfa, .int rk_cfa, .int rk_begins])), (a_sk, .inl (K 1, 16, .inl sk))]) (c_Fu_recoverRegister l D K a_t a_se a_la a_tr a_me a_fr a_fv a_ca a_cv a_rk t_lastValue fr_known fr_pc fr_unwound fv ca_known ca_pc ca_unwound cv r1 r1 q55 hq55) (cs_Fu_197 rfl rfl ⟨Nat.le_of_ble_eq_true rfl, Nat.le_of_ble_eq_true rfl⟩) rfl 0 rfl (gOver.mk2 [0, 9, 10, 11, 12] [some 0, none, none, none, none, none, none, none, none, some 1, some 2, some 3, some 4, none, none] (by decide) (by decide) rfl rfl rfl) (Nat.le_of_ble_eq_true rfl) ⟨Nat.le_of_ble_eq_true rfl, Nat.le_of_ble_eq_true rfl⟩ d_Fu_recover_55 rfl rfl ?_
    obtain rfl := Option.some.inj h
    exact g_iret rfl d_Fu_recover_58
  replace h := it_f hc14_52 h
  by_cases hc14_59 : (rok r1.toNatClampNeg) = 2
  · replace h := it_t hc14_59 h
    refine g_table (off := 45) (tgt := 59) d_Fu_recover_14 (by decide) (by rw [hc14_59]; decide +kernel) (by decide) ?_
    refine g_aload_n d_Fu_recover_59 rfl ?_
    refine g_iload_n d_Fu_recover_60 rfl ?_
    refine g_iload_n d_Fu_recover_61 rfl ?_
    refine g_iload d_Fu_recover_62 rfl ?_
    refine g_iadd d_Fu_recover_64 ?_
    obtain ⟨q65, hq65, h⟩ := it_b h
    refine g_callV (ci := 10) (q := (xR_Fu, xF_Fu, 8)) (As := [.int r1, .int (c1 + (ron r1.toNatClampNeg))]) (rest := []) (st2 := [.int q65.1]) (ws2 := [(a_t, .inr (10, [.ref a_se, .ref a_la, .ref a_tr, .ref a_me, .ref a_fr, .ref a_ca, .ref a_rk, .int t_lastValue])), (a_bb, .inl (K 0, 512, .inl bb)), (a_rd, .inr (5, [.ref a_bb, .int rd_at, .int rd_limit, .int rd_broken])), (a_ro, .inr (7, [.ref a_rok, .ref a_ron, .ref a_ros])), (a_rok, .inl (K 1, 9, .inl rok)), (a_ron, .inl (K 1, 9, .inl ron)), (a_ros, .inl (K 1, 9, .inl ros)), (a_me, .inr (4, [.ref a_mw])), (a_mw, .inl (K 1, 256, .inl mw)), (a_fr, .inr (1, [.ref a_fv, .int fr_known, .int fr_pc, .int fr_unwound])), (a_fv, .inl (K 1, 8, .inl fv)), (a_ca, .inr (1, [.ref a_cv, .int q65.2.1, .int ca_pc, .int ca_unwound])), (a_cv, .inl (K 1, 8, .inl q65.2.2)), (a_rk, .inr (6, [.ref a_rd, .ref a_me, .ref a_fr, .ref a_sk, .int rk_height, .int rk_hasCfa, .int rk_cfa, .int rk_begins])), (a_sk, .inl (K 1, 16, .inl sk))]) (c_Fu_recoverWord l D K a_t a_se a_la a_tr a_me a_mw a_fr a_ca a_cv a_rk t_lastValue mw ca_known ca_pc ca_unwound cv r1 (c1 + (ron r1.toNatClampNeg)) q65 hq65) (cs_Fu_200 rfl rfl ⟨Nat.le_of_ble_eq_true rfl, Nat.le_of_ble_eq_true rfl⟩) rfl 0 rfl (gOver.mk2 [0, 7, 8, 11, 12] [some 0, none, none, none, none, none, none, some 1, some 2, none, none, some 3, some 4, none, none] (by decide) (by decide) rfl rfl rfl) (Nat.le_of_ble_eq_true rfl) ⟨Nat.le_of_ble_eq_true rfl, Nat.le_of_ble_eq_true rfl⟩ d_Fu_recover_65 rfl rfl ?_
    obtain rfl := Option.some.inj h
    exact g_iret rfl d_Fu_recover_68
  replace h := it_f hc14_59 h
  by_cases hc14_69 : (rok r1.toNatClampNeg) = 3
  · replace h := it_t hc14_69 h
    refine g_table (off := 55) (tgt := 69) d_Fu_recover_14 (by decide) (by rw [hc14_69]; decide +kernel) (by decide) ?_
    refine g_aload_n d_Fu_recover_69 rfl ?_
    refine gf_Fu_57 0 rfl (v := .ref a_ca) rfl d_Fu_recover_70 ?_
    refine g_iload_n d_Fu_recover_73 rfl ?_
    refine g_iload_n d_Fu_recover_74 rfl ?_
    refine g_iload d_Fu_recover_75 rfl ?_
    refine g_iadd d_Fu_recover_77 ?_
    obtain ⟨q78, hq78, h⟩ := it_b h
    refine g_callV (ci := 1) (q := (xR_Fr, xF_Fr, 4)) (As := [.int r1, .int (c1 + (ron r1.toNatClampNeg))]) (rest := []) (st2 := []) (ws2 := [(a_t, .inr (10, [.ref a_se, .ref a_la, .ref a_tr, .ref a_me, .ref a_fr, .ref a_ca, .ref a_rk, .int t_lastValue])), (a_bb, .inl (K 0, 512, .inl bb)), (a_rd, .inr (5, [.ref a_bb, .int rd_at, .int rd_limit, .int rd_broken])), (a_ro, .inr (7, [.ref a_rok, .ref a_ron, .ref a_ros])), (a_rok, .inl (K 1, 9, .inl rok)), (a_ron, .inl (K 1, 9, .inl ron)), (a_ros, .inl (K 1, 9, .inl ros)), (a_me, .inr (4, [.ref a_mw])), (a_mw, .inl (K 1, 256, .inl mw)), (a_fr, .inr (1, [.ref a_fv, .int fr_known, .int fr_pc, .int fr_unwound])), (a_fv, .inl (K 1, 8, .inl fv)), (a_ca, .inr (1, [.ref a_cv, .int q78.1, .int ca_pc, .int ca_unwound])), (a_cv, .inl (K 1, 8, .inl q78.2)), (a_rk, .inr (6, [.ref a_rd, .ref a_me, .ref a_fr, .ref a_sk, .int rk_height, .int rk_hasCfa, .int rk_cfa, .int rk_begins])), (a_sk, .inl (K 1, 16, .inl sk))]) (c_Fr_learn l D K a_ca a_cv ca_known ca_pc ca_unwound cv r1 (c1 + (ron r1.toNatClampNeg)) q78 hq78) (cs_Fu_136 rfl rfl ⟨Nat.le_of_ble_eq_true rfl, Nat.le_of_ble_eq_true rfl⟩) rfl 11 rfl (gOver.mk2 [11, 12] [none, none, none, none, none, none, none, none, none, none, none, some 0, some 1, none, none] (by decide) (by decide) rfl rfl rfl) (Nat.le_of_ble_eq_true rfl) ⟨Nat.le_of_ble_eq_true rfl, Nat.le_of_ble_eq_true rfl⟩ d_Fu_recover_78 rfl rfl ?_
    refine g_iconst (v := 0) d_Fu_recover_81 (by decide) ?_
    obtain rfl := Option.some.inj h
    exact g_iret rfl d_Fu_recover_82
  replace h := it_f hc14_69 h
  by_cases hc14_83 : (rok r1.toNatClampNeg) = 4
  · replace h := it_t hc14_83 h
    refine g_table (off := 69) (tgt := 83) d_Fu_recover_14 (by decide) (by rw [hc14_83]; decide +kernel) (by decide) ?_
    refine g_aload_n d_Fu_recover_83 rfl ?_
    refine g_iload_n d_Fu_recover_84 rfl ?_
    refine g_iload d_Fu_recover_85 rfl ?_
    obtain ⟨q87, hq87, h⟩ := it_b h
    refine g_callV (ci := 10) (q := (xR_Fu, xF_Fu, 8)) (As := [.int r1, .int (ron r1.toNatClampNeg)]) (rest := []) (st2 := [.int q87.1]) (ws2 := [(a_t, .inr (10, [.ref a_se, .ref a_la, .ref a_tr, .ref a_me, .ref a_fr, .ref a_ca, .ref a_rk, .int t_lastValue])), (a_bb, .inl (K 0, 512, .inl bb)), (a_rd, .inr (5, [.ref a_bb, .int rd_at, .int rd_limit, .int rd_broken])), (a_ro, .inr (7, [.ref a_rok, .ref a_ron, .ref a_ros])), (a_rok, .inl (K 1, 9, .inl rok)), (a_ron, .inl (K 1, 9, .inl ron)), (a_ros, .inl (K 1, 9, .inl ros)), (a_me, .inr (4, [.ref a_mw])), (a_mw, .inl (K 1, 256, .inl mw)), (a_fr, .inr (1, [.ref a_fv, .int fr_known, .int fr_pc, .int fr_unwound])), (a_fv, .inl (K 1, 8, .inl fv)), (a_ca, .inr (1, [.ref a_cv, .int q87.2.1, .int ca_pc, .int ca_unwound])), (a_cv, .inl (K 1, 8, .inl q87.2.2)), (a_rk, .inr (6, [.ref a_rd, .ref a_me, .ref a_fr, .ref a_sk, .int rk_height, .int rk_hasCfa, .int rk_cfa, .int rk_begins])), (a_sk, .inl (K 1, 16, .inl sk))]) (c_Fu_recoverRegister l D K a_t a_se a_la a_tr a_me a_fr a_fv a_ca a_cv a_rk t_lastValue fr_known fr_pc fr_unwound fv ca_known ca_pc ca_unwound cv r1 (ron r1.toNatClampNeg) q87 hq87) (cs_Fu_197 rfl rfl ⟨Nat.le_of_ble_eq_true rfl, Nat.le_of_ble_eq_true rfl⟩) rfl 0 rfl (gOver.mk2 [0, 9, 10, 11, 12] [some 0, none, none, none, none, none, none, none, none, some 1, some 2, some 3, some 4, none, none] (by decide) (by decide) rfl rfl rfl) (Nat.le_of_ble_eq_true rfl) ⟨Nat.le_of_ble_eq_true rfl, Nat.le_of_ble_eq_true rfl⟩ d_Fu_recover_87 rfl rfl ?_
    obtain rfl := Option.some.inj h
    exact g_iret rfl d_Fu_recover_90
  replace h := it_f hc14_83 h
  by_cases hc14_91 : (rok r1.toNatClampNeg) = 5 ∨ (rok r1.toNatClampNeg) = 6
  · replace h := it_t hc14_91 h
    refine g_table (off := 77) (tgt := 91) d_Fu_recover_14 (by decide) (by rcases hc14_91 with hc | hc <;> (rw [hc]; decide +kernel)) (by decide) ?_
    refine g_aload_n d_Fu_recover_91 rfl ?_
    refine gf_Fu_65 0 rfl (v := .ref a_rk) rfl d_Fu_recover_92 ?_
    obtain ⟨q95, hq95, h⟩ := it_b h
    refine g_callV (ci := 6) (q := (xR_Rk, xF_Rk, 8)) (As := []) (rest := []) (st2 := []) (ws2 := [(a_t, .inr (10, [.ref a_se, .ref a_la, .ref a_tr, .ref a_me, .ref a_fr, .ref a_ca, .ref a_rk, .int t_lastValue])), (a_bb, .inl (K 0, 512, .inl bb)), (a_rd, .inr (5, [.ref a_bb, .int rd_at, .int rd_limit, .int rd_broken])), (a_ro, .inr (7, [.ref a_rok, .ref a_ron, .ref a_ros])), (a_rok, .inl (K 1, 9, .inl rok)), (a_ron, .inl (K 1, 9, .inl ron)), (a_ros, .inl (K 1, 9, .inl ros)), (a_me, .inr (4, [.ref a_mw])), (a_mw, .inl (K 1, 256, .inl mw)), (a_fr, .inr (1, [.ref a_fv, .int fr_known, .int fr_pc, .int fr_unwound])), (a_fv, .inl (K 1, 8, .inl fv)), (a_ca, .inr (1, [.ref a_cv, .int ca_known, .int ca_pc, .int ca_unwound])), (a_cv, .inl (K 1, 8, .inl cv)), (a_rk, .inr (6, [.ref a_rd, .ref a_me, .ref a_fr, .ref a_sk, .int q95.1, .int q95.2, .int rk_cfa, .int rk_begins])), (a_sk, .inl (K 1, 16, .inl sk))]) (c_Rk_clear l D K a_rk a_rd a_me a_fr a_sk rk_height rk_hasCfa rk_cfa rk_begins q95 hq95) (cs_Fu_148 rfl rfl ⟨Nat.le_of_ble_eq_true rfl, Nat.le_of_ble_eq_true rfl⟩) rfl 13 rfl (gOver.mk2 [13] [none, none, none, none, none, none, none, none, none, none, none, none, none, some 0, none] (by decide) (by decide) rfl rfl rfl) (Nat.le_of_ble_eq_true rfl) ⟨Nat.le_of_ble_eq_true rfl, Nat.le_of_ble_eq_true rfl⟩ d_Fu_recover_95 rfl rfl ?_
    refine g_aload_n d_Fu_recover_98 rfl ?_
    refine gf_Fu_65 0 rfl (v := .ref a_rk) rfl d_Fu_recover_99 ?_
    refine g_iload_n d_Fu_recover_102 rfl ?_
    obtain ⟨q103, hq103, h⟩ := it_b h
    refine g_callV (ci := 6) (q := (xR_Rk, xF_Rk, 8)) (As := [.int c1]) (rest := []) (st2 := []) (ws2 := [(a_t, .inr (10, [.ref a_se, .ref a_la, .ref a_tr, .ref a_me, .ref a_fr, .ref a_ca, .ref a_rk, .int t_lastValue])), (a_bb, .inl (K 0, 512, .inl bb)), (a_rd, .inr (5, [.ref a_bb, .int rd_at, .int rd_limit, .int rd_broken])), (a_ro, .inr (7, [.ref a_rok, .ref a_ron, .ref a_ros])), (a_rok, .inl (K 1, 9, .inl rok)), (a_ron, .inl (K 1, 9, .inl ron)), (a_ros, .inl (K 1, 9, .inl ros)), (a_me, .inr (4, [.ref a_mw])), (a_mw, .inl (K 1, 256, .inl mw)), (a_fr, .inr (1, [.ref a_fv, .int fr_known, .int fr_pc, .int fr_unwound])), (a_fv, .inl (K 1, 8, .inl fv)), (a_ca, .inr (1, [.ref a_cv, .int ca_known, .int ca_pc, .int ca_unwound])), (a_cv, .inl (K 1, 8, .inl cv)), (a_rk, .inr (6, [.ref a_rd, .ref a_me, .ref a_fr, .ref a_sk, .int q103.1, .int q103.2.1, .int q103.2.2.1, .int rk_begins])), (a_sk, .inl (K 1, 16, .inl q103.2.2.2))]) (c_Rk_giveCfa l D K a_rk a_rd a_me a_fr a_sk q95.1 q95.2 rk_cfa rk_begins sk c1 q103 hq103) (cs_Fu_203 rfl rfl ⟨Nat.le_of_ble_eq_true rfl, Nat.le_of_ble_eq_true rfl⟩) rfl 13 rfl (gOver.mk2 [13, 14] [none, none, none, none, none, none, none, none, none, none, none, none, none, some 0, some 1] (by decide) (by decide) rfl rfl rfl) (Nat.le_of_ble_eq_true rfl) ⟨Nat.le_of_ble_eq_true rfl, Nat.le_of_ble_eq_true rfl⟩ d_Fu_recover_103 rfl rfl ?_
    refine g_aload_n d_Fu_recover_106 rfl ?_
    refine gf_Fu_65 0 rfl (v := .ref a_rk) rfl d_Fu_recover_107 ?_
    refine g_iload d_Fu_recover_110 rfl ?_
    refine g_iload d_Fu_recover_112 rfl ?_
    refine g_aload_n d_Fu_recover_114 rfl ?_
    refine gf_Fu_188 3 rfl (v := .ref a_ros) rfl d_Fu_recover_115 ?_
    refine g_iload_n d_Fu_recover_118 rfl ?_
    obtain ⟨hi119, h⟩ := it_in h
    refine g_iald 6 1 d_Fu_recover_119 rfl rfl hi119 ?_
    refine g_iadd d_Fu_recover_120 ?_
    refine g_iload d_Fu_recover_121 rfl ?_
    obtain ⟨q123, hq123, h⟩ := it_b h
    refine g_callV (ci := 6) (q := (xR_Rk, xF_Rk, 8)) (As := [.int (ron r1.toNatClampNeg), .int ((ron r1.toNatClampNeg) + (ros r1.toNatClampNeg)), .int u1]) (rest := []) (st2 := [.int q123.1]) (ws2 := [(a_t, .inr (10, [.ref a_se, .ref a_la, .ref a_tr, .ref a_me, .ref a_fr, .ref a_ca, .ref a_rk, .int t_lastValue])), (a_bb, .inl (K 0, 512, .inl bb)), (a_rd, .inr (5, [.ref a_bb, .int q123.2.2.2.1, .int q123.2.2.2.2.1, .int q123.2.2.2.2.2.1])), (a_ro, .inr (7, [.ref a_rok, .ref a_ron, .ref a_ros])), (a_rok, .inl (K 1, 9, .inl rok)), (a_ron, .inl (K 1, 9, .inl ron)), (a_ros, .inl (K 1, 9, .inl ros)), (a_me, .inr (4, [.ref a_mw])), (a_mw, .inl (K 1, 256, .inl mw)), (a_fr, .inr (1, [.ref a_fv, .int fr_known, .int fr_pc, .int fr_unwound])), (a_fv, .inl (K 1, 8, .inl fv)), (a_ca, .inr (1, [.ref a_cv, .int ca_known, .int ca_pc, .int ca_unwound])), (a_cv, .inl (K 1, 8, .inl cv)), (a_rk, .inr (6, [.ref a_rd, .ref a_me, .ref a_fr, .ref a_sk, .int q123.2.1, .int q103.2.1, .int q103.2.2.1, .int q123.2.2.1])), (a_sk, .inl (K 1, 16, .inl q123.2.2.2.2.2.2))]) (c_Rk_run l D K a_rk a_rd a_bb a_me a_mw a_fr a_fv a_sk q103.1 q103.2.1 q103.2.2.1 rk_begins rd_at rd_limit rd_broken bb mw fr_known fr_pc fr_unwound fv q103.2.2.2 (ron r1.toNatClampNeg) ((ron r1.toNatClampNeg) + (ros r1.toNatClampNeg)) u1 q123 hq123) (cs_Fu_151 rfl rfl ⟨Nat.le_of_ble_eq_true rfl, Nat.le_of_ble_eq_true rfl⟩) rfl 13 rfl (gOver.mk2 [13, 2, 1, 7, 8, 9, 10, 14] [none, some 2, some 1, none, none, none, none, some 3, some 4, some 5, some 6, none, none, some 0, some 7] (by decide) (by decide) rfl rfl rfl) (Nat.le_of_ble_eq_true rfl) ⟨Nat.le_of_ble_eq_true rfl, Nat.le_of_ble_eq_true rfl⟩ d_Fu_recover_123 rfl rfl ?_
    refine g_istore (L' := [(6, .int q123.1), (5, .int (ron r1.toNatClampNeg)), (0, .ref a_t), (1, .ref a_ro), (2, .int r1), (3, .int c1), (4, .int u1)]) d_Fu_recover_126 (by decide) rfl ?_
    refine g_iload d_Fu_recover_128 rfl ?_
    refine g_if_ne (tgt := 147) d_Fu_recover_130 (by decide) (fun hc => ?_) (fun hc => ?_)
    · replace h := it_f hc h
      refine g_iload d_Fu_recover_147 rfl ?_
      obtain rfl := Option.some.inj h
      exact g_iret rfl d_Fu_recover_149
    · replace h := it_t hc h
      refine g_aload_n d_Fu_recover_133 rfl ?_
      refine g_iload_n d_Fu_recover_134 rfl ?_
      refine g_aload_n d_Fu_recover_135 rfl ?_
      refine gf_Fu_161 3 rfl (v := .ref a_rok) rfl d_Fu_recover_136 ?_
      refine g_iload_n d_Fu_recover_139 rfl ?_
      obtain ⟨hi140, h⟩ := it_in h
      refine g_iald 4 1 d_Fu_recover_140 rfl rfl hi140 ?_
      obtain ⟨q141, hq141, h⟩ := it_b h
      refine g_callV (ci := 10) (q := (xR_Fu, xF_Fu, 8)) (As := [.int r1, .int (rok r1.toNatClampNeg)]) (rest := []) (st2 := [.int q141.1]) (ws2 := [(a_t, .inr (10, [.ref a_se, .ref a_la, .ref a_tr, .ref a_me, .ref a_fr, .ref a_ca, .ref a_rk, .int t_lastValue])), (a_bb, .inl (K 0, 512, .inl bb)), (a_rd, .inr (5, [.ref a_bb, .int q123.2.2.2.1, .int q123.2.2.2.2.1, .int q123.2.2.2.2.2.1])), (a_ro, .inr (7, [.ref a_rok, .ref a_ron, .ref a_ros])), (a_rok, .inl (K 1, 9, .inl rok)), (a_ron, .inl (K 1, 9, .inl ron)), (a_ros, .inl (K 1, 9, .inl ros)), (a_me, .inr (4, [.ref a_mw])), (a_mw, .inl (K 1, 256, .inl mw)), (a_fr, .inr (1, [.ref a_fv, .int fr_known, .int fr_pc, .int fr_unwound])), (a_fv, .inl (K 1, 8, .inl fv)), (a_ca, .inr (1, [.ref a_cv, .int q141.2.1, .int ca_pc, .int ca_unwound])), (a_cv, .inl (K 1, 8, .inl q141.2.2)), (a_rk, .inr (6, [.ref a_rd, .ref a_me, .ref a_fr, .ref a_sk, .int q123.2.1, .int q103.2.1, .int q103.2.2.1, .int q123.2.2.1])), (a_sk, .inl (K 1, 16, .inl q123.2.2.2.2.2.2))]) (c_Fu_recoverReckoned l D K a_t a_se a_rd a_la a_tr a_me a_mw a_fr a_ca a_cv a_rk a_sk t_lastValue mw ca_known ca_pc ca_unwound cv q123.2.1 q103.2.1 q103.2.2.1 q123.2.2.1 q123.2.2.2.2.2.2 r1 (rok r1.toNatClampNeg) q141 hq141) (cs_Fu_206 rfl rfl ⟨Nat.le_of_ble_eq_true rfl, Nat.le_of_ble_eq_true rfl⟩) rfl 0 rfl (gOver.mk2 [0, 7, 8, 11, 12, 13, 14] [some 0, none, none, none, none, none, none, some 1, some 2, none, none, some 3, some 4, some 5, some 6] (by decide) (by decide) rfl rfl rfl) (Nat.le_of_ble_eq_true rfl) ⟨Nat.le_of_ble_eq_true rfl, Nat.le_of_ble_eq_true rfl⟩ d_Fu_recover_141 rfl rfl ?_
      refine g_goto (tgt := 149) d_Fu_recover_144 (by decide) ?_
      obtain rfl := Option.some.inj h
      exact g_iret rfl d_Fu_recover_149
  replace h := it_f hc14_91 h
  refine g_table (off := 136) (tgt := 150) d_Fu_recover_14 (by decide) (by simp only [gTabL]; rw [lv_osw hc14_52 (by decide), lv_osw hc14_59 (by decide), lv_osw hc14_69 (by decide), lv_osw hc14_83 (by decide), lv_osw (fun z => hc14_91 (Or.inl z)) (by decide), lv_osw (fun z => hc14_91 (Or.inr z)) (by decide)]; rfl) (by decide) ?_
  refine g_aload_n d_Fu_recover_150 rfl ?_
  refine gf_Fu_57 0 rfl (v := .ref a_ca) rfl d_Fu_recover_151 ?_
  refine g_iload_n d_Fu_recover_154 rfl ?_
  obtain ⟨q155, hq155, h⟩ := it_b h
  refine g_callV (ci := 1) (q := (xR_Fr, xF_Fr, 4)) (As := [.int r1]) (rest := []) (st2 := []) (ws2 := [(a_t, .inr (10, [.ref a_se, .ref a_la, .ref a_tr, .ref a_me, .ref a_fr, .ref a_ca, .ref a_rk, .int t_lastValue])), (a_bb, .inl (K 0, 512, .inl bb)), (a_rd, .inr (5, [.ref a_bb, .int rd_at, .int rd_limit, .int rd_broken])), (a_ro, .inr (7, [.ref a_rok, .ref a_ron, .ref a_ros])), (a_rok, .inl (K 1, 9, .inl rok)), (a_ron, .inl (K 1, 9, .inl ron)), (a_ros, .inl (K 1, 9, .inl ros)), (a_me, .inr (4, [.ref a_mw])), (a_mw, .inl (K 1, 256, .inl mw)), (a_fr, .inr (1, [.ref a_fv, .int fr_known, .int fr_pc, .int fr_unwound])), (a_fv, .inl (K 1, 8, .inl fv)), (a_ca, .inr (1, [.ref a_cv, .int q155.1, .int ca_pc, .int ca_unwound])), (a_cv, .inl (K 1, 8, .inl q155.2)), (a_rk, .inr (6, [.ref a_rd, .ref a_me, .ref a_fr, .ref a_sk, .int rk_height, .int rk_hasCfa, .int rk_cfa, .int rk_begins])), (a_sk, .inl (K 1, 16, .inl sk))]) (c_Fr_forget l D K a_ca a_cv ca_known ca_pc ca_unwound cv r1 q155 hq155) (cs_Fu_209 rfl rfl ⟨Nat.le_of_ble_eq_true rfl, Nat.le_of_ble_eq_true rfl⟩) rfl 11 rfl (gOver.mk2 [11, 12] [none, none, none, none, none, none, none, none, none, none, none, some 0, some 1, none, none] (by decide) (by decide) rfl rfl rfl) (Nat.le_of_ble_eq_true rfl) ⟨Nat.le_of_ble_eq_true rfl, Nat.le_of_ble_eq_true rfl⟩ d_Fu_recover_155 rfl rfl ?_
  refine g_iconst (v := 0) d_Fu_recover_158 (by decide) ?_
  obtain rfl := Option.some.inj h
  exact g_iret rfl d_Fu_recover_159
def f_Fu_goToCaller (fr_known : Int32) (fr_pc : Int32) (fr_unwound : Int32) (fv : Nat → Int32) (ca_known : Int32) (cv : Nat → Int32) (r1 : Int32) : Option (Int32 × Int32 × Int32 × Int32 × (Nat → Int32)) := ((f_Fr_knows ca_known r1).bind fun q5 => if q5 = 0 then (some (4, fr_known, fr_pc, fr_unwound, fv)) else (((f_Fr_takeRegisters fr_known fv ca_known cv).bind fun q21 => if r1 < 0 ∨ 8 ≤ r1.toNatClampNeg then none else some (0, q21.1, q21.2 r1.toNatClampNeg, fr_unwound + 1, q21.2))))
set_option maxRecDepth 100000 in
set_option maxHeartbeats 4000000 in
theorem c_Fu_goToCaller (l : Launch) (D : va_G) (K : Nat → ClassId) (a_t a_se a_la a_tr a_me a_fr a_fv a_ca a_cv a_rk : Nat) (t_lastValue : Int32) (fr_known : Int32) (fr_pc : Int32) (fr_unwound : Int32) (fv : Nat → Int32) (ca_known : Int32) (ca_pc : Int32) (ca_unwound : Int32) (cv : Nat → Int32) (r1 : Int32) (o : Int32 × Int32 × Int32 × Int32 × (Nat → Int32)) (h : f_Fu_goToCaller fr_known fr_pc fr_unwound fv ca_known cv r1 = some o) : Ct l y_Fu_goToCaller b_Fu_goToCaller 2 (some .int) { frames := 2, cells := 0, slots := 0, locals := 121 } D vwCl (xTy K) [.ref a_t, .int r1] [(a_t, .inr (10, [.ref a_se, .ref a_la, .ref a_tr, .ref a_me, .ref a_fr, .ref a_ca, .ref a_rk, .int t_lastValue])), (a_fr, .inr (1, [.ref a_fv, .int fr_known, .int fr_pc, .int fr_unwound])), (a_fv, .inl (K 1, 8, .inl fv)), (a_ca, .inr (1, [.ref a_cv, .int ca_known, .int ca_pc, .int ca_unwound])), (a_cv, .inl (K 1, 8, .inl cv))] (some (.int o.1)) [(a_t, .inr (10, [.ref a_se, .ref a_la, .ref a_tr, .ref a_me, .ref a_fr, .ref a_ca, .ref a_rk, .int t_lastValue])), (a_fr, .inr (1, [.ref a_fv, .int o.2.1, .int o.2.2.1, .int o.2.2.2.1])), (a_fv, .inl (K 1, 8, .inl o.2.2.2.2)), (a_ca, .inr (1, [.ref a_cv, .int ca_known, .int ca_pc, .int ca_unwound])), (a_cv, .inl (K 1, 8, .inl cv))] := by
  refine Ct.ofG (by decide) (Nat.le_of_ble_eq_true rfl) ?_
  refine g_L (L' := [(0, .ref a_t), (1, .int r1)]) rfl ?_
  unfold f_Fu_goToCaller at h
  refine g_aload_n d_Fu_goToCaller_0 rfl ?_
  refine gf_Fu_57 0 rfl (v := .ref a_ca) rfl d_Fu_goToCaller_1 ?_
  refine g_iload_n d_Fu_goToCaller_4 rfl ?_
  obtain ⟨q5, hq5, h⟩ := it_b h
  refine g_callV (ci := 1) (q := (xR_Fr, xF_Fr, 4)) (As := [.int r1]) (rest := []) (st2 := [.int q5]) (ws2 := [(a_t, .inr (10, [.ref a_se, .ref a_la, .ref a_tr, .ref a_me, .ref a_fr, .ref a_ca, .ref a_rk, .int t_lastValue])), (a_fr, .inr (1, [.ref a_fv, .int fr_known, .int fr_pc, .int fr_unwound])), (a_fv, .inl (K 1, 8, .inl fv)), (a_ca, .inr (1, [.ref a_cv, .int ca_known, .int ca_pc, .int ca_unwound])), (a_cv, .inl (K 1, 8, .inl cv))]) (c_Fr_knows l D K a_ca a_cv ca_known ca_pc ca_unwound r1 q5 hq5) (cs_Fu_191 rfl rfl ⟨Nat.le_of_ble_eq_true rfl, Nat.le_of_ble_eq_true rfl⟩) rfl 3 rfl (gOver.rd [3] (by decide) rfl) (Nat.le_of_ble_eq_true rfl) ⟨Nat.le_of_ble_eq_true rfl, Nat.le_of_ble_eq_true rfl⟩ d_Fu_goToCaller_5 rfl rfl ?_
  refine g_if_ne (tgt := 13) d_Fu_goToCaller_8 (by decide) (fun hc => ?_) (fun hc => ?_)
  · replace h := it_f hc h
    refine g_aload_n d_Fu_goToCaller_13 rfl ?_
    refine gf_Fu_53 0 rfl (v := .ref a_fr) rfl d_Fu_goToCaller_14 ?_
    refine g_aload_n d_Fu_goToCaller_17 rfl ?_
    refine gf_Fu_57 0 rfl (v := .ref a_ca) rfl d_Fu_goToCaller_18 ?_
    obtain ⟨q21, hq21, h⟩ := it_b h
    refine g_callV (ci := 1) (q := (xR_Fr, xF_Fr, 4)) (As := [.ref a_ca]) (rest := []) (st2 := []) (ws2 := [(a_t, .inr (10, [.ref a_se, .ref a_la, .ref a_tr, .ref a_me, .ref a_fr, .ref a_ca, .ref a_rk, .int t_lastValue])), (a_fr, .inr (1, [.ref a_fv, .int q21.1, .int fr_pc, .int fr_unwound])), (a_fv, .inl (K 1, 8, .inl q21.2)), (a_ca, .inr (1, [.ref a_cv, .int ca_known, .int ca_pc, .int ca_unwound])), (a_cv, .inl (K 1, 8, .inl cv))]) (c_Fr_takeRegisters l D K a_fr a_fv a_ca a_cv fr_known fr_pc fr_unwound fv ca_known ca_pc ca_unwound cv q21 hq21) (cs_Fu_215 rfl rfl ⟨Nat.le_of_ble_eq_true rfl, Nat.le_of_ble_eq_true rfl⟩) rfl 1 rfl (gOver.mk2 [1, 2, 3, 4] [none, some 0, some 1, some 2, some 3] (by decide) (by decide) rfl rfl rfl) (Nat.le_of_ble_eq_true rfl) ⟨Nat.le_of_ble_eq_true rfl, Nat.le_of_ble_eq_true rfl⟩ d_Fu_goToCaller_21 rfl rfl ?_
    refine g_aload_n d_Fu_goToCaller_24 rfl ?_
    refine gf_Fu_53 0 rfl (v := .ref a_fr) rfl d_Fu_goToCaller_25 ?_
    refine g_aload_n d_Fu_goToCaller_28 rfl ?_
    refine gf_Fu_53 0 rfl (v := .ref a_fr) rfl d_Fu_goToCaller_29 ?_
    refine gf_Fu_182 1 rfl (v := .ref a_fv) rfl d_Fu_goToCaller_32 ?_
    refine g_iload_n d_Fu_goToCaller_35 rfl ?_
    obtain ⟨hi36, h⟩ := it_in h
    refine g_iald 2 1 d_Fu_goToCaller_36 rfl rfl hi36 ?_
    refine pf_Fu_139 1 rfl (v := .int (q21.2 r1.toNatClampNeg)) rfl rfl (Nat.le_of_ble_eq_true rfl) (ws' := [(a_t, .inr (10, [.ref a_se, .ref a_la, .ref a_tr, .ref a_me, .ref a_fr, .ref a_ca, .ref a_rk, .int t_lastValue])), (a_fr, .inr (1, [.ref a_fv, .int q21.1, .int (q21.2 r1.toNatClampNeg), .int fr_unwound])), (a_fv, .inl (K 1, 8, .inl q21.2)), (a_ca, .inr (1, [.ref a_cv, .int ca_known, .int ca_pc, .int ca_unwound])), (a_cv, .inl (K 1, 8, .inl cv))]) rfl d_Fu_goToCaller_37 ?_
    refine g_aload_n d_Fu_goToCaller_40 rfl ?_
    refine gf_Fu_53 0 rfl (v := .ref a_fr) rfl d_Fu_goToCaller_41 ?_
    refine g_dup d_Fu_goToCaller_44 rfl ?_
    refine gf_Fu_142 1 rfl (v := .int fr_unwound) rfl d_Fu_goToCaller_45 ?_
    refine g_iconst (v := 1) d_Fu_goToCaller_48 (by decide) ?_
    refine g_iadd d_Fu_goToCaller_49 ?_
    refine pf_Fu_142 1 rfl (v := .int (fr_unwound + 1)) rfl rfl (Nat.le_of_ble_eq_true rfl) (ws' := [(a_t, .inr (10, [.ref a_se, .ref a_la, .ref a_tr, .ref a_me, .ref a_fr, .ref a_ca, .ref a_rk, .int t_lastValue])), (a_fr, .inr (1, [.ref a_fv, .int q21.1, .int (q21.2 r1.toNatClampNeg), .int (fr_unwound + 1)])), (a_fv, .inl (K 1, 8, .inl q21.2)), (a_ca, .inr (1, [.ref a_cv, .int ca_known, .int ca_pc, .int ca_unwound])), (a_cv, .inl (K 1, 8, .inl cv))]) rfl d_Fu_goToCaller_50 ?_
    refine g_iconst (v := 0) d_Fu_goToCaller_53 (by decide) ?_
    obtain rfl := Option.some.inj h
    exact g_iret rfl d_Fu_goToCaller_54
  · replace h := it_t hc h
    refine g_iconst (v := 4) d_Fu_goToCaller_11 (by decide) ?_
    obtain rfl := Option.some.inj h
    exact g_iret rfl d_Fu_goToCaller_12
