def f_In_readBlock (t_number : Int32) (t_bytesFrom : Int32) (rd_at : Int32) (rd_limit : Int32) (rd_broken : Int32) (bb : Nat → Int32) : Option (Int32 × Int32 × Int32 × Int32) := ((f_Rd_uleb rd_at rd_limit rd_broken bb).bind fun q2 => ((f_Rd_skip q2.2.1 rd_limit q2.2.2 q2.1).bind fun q21 => some (q2.1, q2.2.1, q21.1, q21.2)))
set_option maxRecDepth 100000 in
set_option maxHeartbeats 4000000 in
theorem c_In_readBlock (l : Launch) (D : va_G) (K : Nat → ClassId) (a_t a_rd a_bb : Nat) (t_operation : Int32) (t_register : Int32) (t_number : Int32) (t_bytesFrom : Int32) (rd_at : Int32) (rd_limit : Int32) (rd_broken : Int32) (bb : Nat → Int32) (o : Int32 × Int32 × Int32 × Int32) (h : f_In_readBlock t_number t_bytesFrom rd_at rd_limit rd_broken bb = some o) : Ct l y_In_readBlock b_In_readBlock 2 none { frames := 1, cells := 0, slots := 0, locals := 23 } D vwCl (xTy K) [.ref a_t, .ref a_rd] [(a_t, .inr (2, [.int t_operation, .int t_register, .int t_number, .int t_bytesFrom])), (a_rd, .inr (5, [.ref a_bb, .int rd_at, .int rd_limit, .int rd_broken])), (a_bb, .inl (K 0, 512, .inl bb))] none [(a_t, .inr (2, [.int t_operation, .int t_register, .int o.1, .int o.2.1])), (a_rd, .inr (5, [.ref a_bb, .int o.2.2.1, .int rd_limit, .int o.2.2.2])), (a_bb, .inl (K 0, 512, .inl bb))] := by
  refine Ct.ofG (by decide) (Nat.le_of_ble_eq_true rfl) ?_
  refine g_L (L' := [(0, .ref a_t), (1, .ref a_rd)]) rfl ?_
  unfold f_In_readBlock at h
  refine g_aload_n d_In_readBlock_0 rfl ?_
  refine g_aload_n d_In_readBlock_1 rfl ?_
  obtain ⟨q2, hq2, h⟩ := it_b h
  refine g_callV (ci := 5) (q := (xR_Rd, xF_Rd, 4)) (As := []) (rest := [.ref a_t]) (st2 := [.int q2.1, .ref a_t]) (ws2 := [(a_t, .inr (2, [.int t_operation, .int t_register, .int t_number, .int t_bytesFrom])), (a_rd, .inr (5, [.ref a_bb, .int q2.2.1, .int rd_limit, .int q2.2.2])), (a_bb, .inl (K 0, 512, .inl bb))]) (c_Rd_uleb l D K a_rd a_bb rd_at rd_limit rd_broken bb q2 hq2) (cs_In_30 rfl rfl ⟨Nat.le_of_ble_eq_true rfl, Nat.le_of_ble_eq_true rfl⟩) rfl 1 rfl (gOver.mk2 [1, 2] [none, some 0, some 1] (by decide) (by decide) rfl rfl rfl) (Nat.le_of_ble_eq_true rfl) ⟨Nat.le_of_ble_eq_true rfl, Nat.le_of_ble_eq_true rfl⟩ d_In_readBlock_2 rfl rfl ?_
  refine pf_In_21 0 rfl (v := .int q2.1) rfl rfl (Nat.le_of_ble_eq_true rfl) (ws' := [(a_t, .inr (2, [.int t_operation, .int t_register, .int q2.1, .int t_bytesFrom])), (a_rd, .inr (5, [.ref a_bb, .int q2.2.1, .int rd_limit, .int q2.2.2])), (a_bb, .inl (K 0, 512, .inl bb))]) rfl d_In_readBlock_5 ?_
  refine g_aload_n d_In_readBlock_8 rfl ?_
  refine g_aload_n d_In_readBlock_9 rfl ?_
  refine gf_In_49 1 rfl (v := .int q2.2.1) rfl d_In_readBlock_10 ?_
  refine pf_In_24 0 rfl (v := .int q2.2.1) rfl rfl (Nat.le_of_ble_eq_true rfl) (ws' := [(a_t, .inr (2, [.int t_operation, .int t_register, .int q2.1, .int q2.2.1])), (a_rd, .inr (5, [.ref a_bb, .int q2.2.1, .int rd_limit, .int q2.2.2])), (a_bb, .inl (K 0, 512, .inl bb))]) rfl d_In_readBlock_13 ?_
  refine g_aload_n d_In_readBlock_16 rfl ?_
  refine g_aload_n d_In_readBlock_17 rfl ?_
  refine gf_In_21 0 rfl (v := .int q2.1) rfl d_In_readBlock_18 ?_
  obtain ⟨q21, hq21, h⟩ := it_b h
  refine g_callV (ci := 5) (q := (xR_Rd, xF_Rd, 4)) (As := [.int q2.1]) (rest := []) (st2 := []) (ws2 := [(a_t, .inr (2, [.int t_operation, .int t_register, .int q2.1, .int q2.2.1])), (a_rd, .inr (5, [.ref a_bb, .int q21.1, .int rd_limit, .int q21.2])), (a_bb, .inl (K 0, 512, .inl bb))]) (c_Rd_skip l D K a_rd a_bb q2.2.1 rd_limit q2.2.2 q2.1 q21 hq21) (cs_In_52 rfl rfl ⟨Nat.le_of_ble_eq_true rfl, Nat.le_of_ble_eq_true rfl⟩) rfl 1 rfl (gOver.mk2 [1] [none, some 0, none] (by decide) (by decide) rfl rfl rfl) (Nat.le_of_ble_eq_true rfl) ⟨Nat.le_of_ble_eq_true rfl, Nat.le_of_ble_eq_true rfl⟩ d_In_readBlock_21 rfl rfl ?_
  obtain rfl := Option.some.inj h
  exact g_vret rfl d_In_readBlock_24
def f_In_readOperands (t_operation : Int32) (t_register : Int32) (t_number : Int32) (t_bytesFrom : Int32) (rd_at : Int32) (rd_limit : Int32) (rd_broken : Int32) (bb : Nat → Int32) : Option (Int32 × Int32 × Int32 × Int32 × Int32 × Int32) := if t_operation = 0 ∨ t_operation = 10 ∨ t_operation = 11 then (some (1, t_register, t_number, t_bytesFrom, rd_at, rd_broken)) else if t_operation = 1 ∨ t_operation = 4 then (((f_Rd_unsigned rd_at rd_limit rd_broken bb 4).bind fun q139 => some (1, t_register, q139.1, t_bytesFrom, q139.2.1, q139.2.2))) else if t_operation = 2 then (((f_Rd_unsigned rd_at rd_limit rd_broken bb 1).bind fun q117 => some (1, t_register, q117.1, t_bytesFrom, q117.2.1, q117.2.2))) else if t_operation = 3 then (((f_Rd_unsigned rd_at rd_limit rd_broken bb 2).bind fun q128 => some (1, t_register, q128.1, t_bytesFrom, q128.2.1, q128.2.2))) else if t_operation = 5 ∨ t_operation = 12 ∨ t_operation = 20 then (((f_Rd_uleb rd_at rd_limit rd_broken bb).bind fun q159 => ((f_Rd_uleb q159.2.1 rd_limit q159.2.2 bb).bind fun q167 => some (1, q159.1, q167.1, t_bytesFrom, q167.2.1, q167.2.2)))) else if t_operation = 6 ∨ t_operation = 7 ∨ t_operation = 8 ∨ t_operation = 13 then (((f_Rd_uleb rd_at rd_limit rd_broken bb).bind fun q149 => some (1, q149.1, t_number, t_bytesFrom, q149.2.1, q149.2.2))) else if t_operation = 9 then (((f_Rd_uleb rd_at rd_limit rd_broken bb).bind fun q195 => ((f_Rd_uleb q195.2.1 rd_limit q195.2.2 bb).bind fun q203 => if q203.1 < 0 then (some (0, q195.1, q203.1, t_bytesFrom, q203.2.1, q203.2.2)) else (if 8 ≤ q203.1 then (some (0, q195.1, q203.1, t_bytesFrom, q203.2.1, q203.2.2)) else (some (1, q195.1, q203.1, t_bytesFrom, q203.2.1, q203.2.2)))))) else if t_operation = 14 then (((f_Rd_uleb rd_at rd_limit rd_broken bb).bind fun q233 => some (1, t_register, q233.1, t_bytesFrom, q233.2.1, q233.2.2))) else if t_operation = 15 then (((f_In_readBlock t_number t_bytesFrom rd_at rd_limit rd_broken bb).bind fun q268 => some (1, t_register, q268.1, q268.2.1, q268.2.2.1, q268.2.2.2))) else if t_operation = 16 ∨ t_operation = 22 then (((f_Rd_uleb rd_at rd_limit rd_broken bb).bind fun q253 => ((f_In_readBlock t_number t_bytesFrom q253.2.1 rd_limit q253.2.2 bb).bind fun q261 => some (1, q253.1, q261.1, q261.2.1, q261.2.2.1, q261.2.2.2)))) else if t_operation = 17 ∨ t_operation = 18 ∨ t_operation = 21 then (((f_Rd_uleb rd_at rd_limit rd_broken bb).bind fun q177 => ((f_Rd_sleb q177.2.1 rd_limit q177.2.2 bb).bind fun q185 => some (1, q177.1, q185.1, t_bytesFrom, q185.2.1, q185.2.2)))) else if t_operation = 19 then (((f_Rd_sleb rd_at rd_limit rd_broken bb).bind fun q243 => some (1, t_register, q243.1, t_bytesFrom, q243.2.1, q243.2.2))) else some (0, t_register, t_number, t_bytesFrom, rd_at, rd_broken)
set_option maxRecDepth 100000 in
set_option maxHeartbeats 4000000 in
theorem c_In_readOperands (l : Launch) (D : va_G) (K : Nat → ClassId) (a_t a_rd a_bb : Nat) (t_operation : Int32) (t_register : Int32) (t_number : Int32) (t_bytesFrom : Int32) (rd_at : Int32) (rd_limit : Int32) (rd_broken : Int32) (bb : Nat → Int32) (o : Int32 × Int32 × Int32 × Int32 × Int32 × Int32) (h : f_In_readOperands t_operation t_register t_number t_bytesFrom rd_at rd_limit rd_broken bb = some o) : Ct l y_In_readOperands b_In_readOperands 2 (some .boolean) { frames := 2, cells := 0, slots := 0, locals := 46 } D vwCl (xTy K) [.ref a_t, .ref a_rd] [(a_t, .inr (2, [.int t_operation, .int t_register, .int t_number, .int t_bytesFrom])), (a_rd, .inr (5, [.ref a_bb, .int rd_at, .int rd_limit, .int rd_broken])), (a_bb, .inl (K 0, 512, .inl bb))] (some (.int o.1)) [(a_t, .inr (2, [.int t_operation, .int o.2.1, .int o.2.2.1, .int o.2.2.2.1])), (a_rd, .inr (5, [.ref a_bb, .int o.2.2.2.2.1, .int rd_limit, .int o.2.2.2.2.2])), (a_bb, .inl (K 0, 512, .inl bb))] := by
  refine Ct.ofG (by decide) (Nat.le_of_ble_eq_true rfl) ?_
  refine g_L (L' := [(0, .ref a_t), (1, .ref a_rd)]) rfl ?_
  unfold f_In_readOperands at h
  refine g_aload_n d_In_readOperands_0 rfl ?_
  refine gf_In_27 0 rfl (v := .int t_operation) rfl d_In_readOperands_1 ?_
  by_cases hc4_112 : t_operation = 0 ∨ t_operation = 10 ∨ t_operation = 11
  · replace h := it_t hc4_112 h
    refine g_table (off := 108) (tgt := 112) d_In_readOperands_4 (by decide) (by rcases hc4_112 with hc | hc | hc <;> (rw [hc]; decide +kernel)) (by decide) ?_
    refine g_iconst (v := 1) d_In_readOperands_112 (by decide) ?_
    obtain rfl := Option.some.inj h
    exact g_zret (v := 1) rfl (by decide) d_In_readOperands_113
  replace h := it_f hc4_112 h
  by_cases hc4_136 : t_operation = 1 ∨ t_operation = 4
  · replace h := it_t hc4_136 h
    refine g_table (off := 132) (tgt := 136) d_In_readOperands_4 (by decide) (by rcases hc4_136 with hc | hc <;> (rw [hc]; decide +kernel)) (by decide) ?_
    refine g_aload_n d_In_readOperands_136 rfl ?_
    refine g_aload_n d_In_readOperands_137 rfl ?_
    refine g_iconst (v := 4) d_In_readOperands_138 (by decide) ?_
    obtain ⟨q139, hq139, h⟩ := it_b h
    refine g_callV (ci := 5) (q := (xR_Rd, xF_Rd, 4)) (As := [.int 4]) (rest := [.ref a_t]) (st2 := [.int q139.1, .ref a_t]) (ws2 := [(a_t, .inr (2, [.int t_operation, .int t_register, .int t_number, .int t_bytesFrom])), (a_rd, .inr (5, [.ref a_bb, .int q139.2.1, .int rd_limit, .int q139.2.2])), (a_bb, .inl (K 0, 512, .inl bb))]) (c_Rd_unsigned l D K a_rd a_bb rd_at rd_limit rd_broken bb 4 q139 hq139) (cs_In_9 rfl rfl ⟨Nat.le_of_ble_eq_true rfl, Nat.le_of_ble_eq_true rfl⟩) rfl 1 rfl (gOver.mk2 [1, 2] [none, some 0, some 1] (by decide) (by decide) rfl rfl rfl) (Nat.le_of_ble_eq_true rfl) ⟨Nat.le_of_ble_eq_true rfl, Nat.le_of_ble_eq_true rfl⟩ d_In_readOperands_139 rfl rfl ?_
    refine pf_In_21 0 rfl (v := .int q139.1) rfl rfl (Nat.le_of_ble_eq_true rfl) (ws' := [(a_t, .inr (2, [.int t_operation, .int t_register, .int q139.1, .int t_bytesFrom])), (a_rd, .inr (5, [.ref a_bb, .int q139.2.1, .int rd_limit, .int q139.2.2])), (a_bb, .inl (K 0, 512, .inl bb))]) rfl d_In_readOperands_142 ?_
    refine g_iconst (v := 1) d_In_readOperands_145 (by decide) ?_
    obtain rfl := Option.some.inj h
    exact g_zret (v := 1) rfl (by decide) d_In_readOperands_146
  replace h := it_f hc4_136 h
  by_cases hc4_114 : t_operation = 2
  · replace h := it_t hc4_114 h
    refine g_table (off := 110) (tgt := 114) d_In_readOperands_4 (by decide) (by rw [hc4_114]; decide +kernel) (by decide) ?_
    refine g_aload_n d_In_readOperands_114 rfl ?_
    refine g_aload_n d_In_readOperands_115 rfl ?_
    refine g_iconst (v := 1) d_In_readOperands_116 (by decide) ?_
    obtain ⟨q117, hq117, h⟩ := it_b h
    refine g_callV (ci := 5) (q := (xR_Rd, xF_Rd, 4)) (As := [.int 1]) (rest := [.ref a_t]) (st2 := [.int q117.1, .ref a_t]) (ws2 := [(a_t, .inr (2, [.int t_operation, .int t_register, .int t_number, .int t_bytesFrom])), (a_rd, .inr (5, [.ref a_bb, .int q117.2.1, .int rd_limit, .int q117.2.2])), (a_bb, .inl (K 0, 512, .inl bb))]) (c_Rd_unsigned l D K a_rd a_bb rd_at rd_limit rd_broken bb 1 q117 hq117) (cs_In_9 rfl rfl ⟨Nat.le_of_ble_eq_true rfl, Nat.le_of_ble_eq_true rfl⟩) rfl 1 rfl (gOver.mk2 [1, 2] [none, some 0, some 1] (by decide) (by decide) rfl rfl rfl) (Nat.le_of_ble_eq_true rfl) ⟨Nat.le_of_ble_eq_true rfl, Nat.le_of_ble_eq_true rfl⟩ d_In_readOperands_117 rfl rfl ?_
    refine pf_In_21 0 rfl (v := .int q117.1) rfl rfl (Nat.le_of_ble_eq_true rfl) (ws' := [(a_t, .inr (2, [.int t_operation, .int t_register, .int q117.1, .int t_bytesFrom])), (a_rd, .inr (5, [.ref a_bb, .int q117.2.1, .int rd_limit, .int q117.2.2])), (a_bb, .inl (K 0, 512, .inl bb))]) rfl d_In_readOperands_120 ?_
    refine g_iconst (v := 1) d_In_readOperands_123 (by decide) ?_
    obtain rfl := Option.some.inj h
    exact g_zret (v := 1) rfl (by decide) d_In_readOperands_124
  replace h := it_f hc4_114 h
  by_cases hc4_125 : t_operation = 3
  · replace h := it_t hc4_125 h
    refine g_table (off := 121) (tgt := 125) d_In_readOperands_4 (by decide) (by rw [hc4_125]; decide +kernel) (by decide) ?_
    refine g_aload_n d_In_readOperands_125 rfl ?_
    refine g_aload_n d_In_readOperands_126 rfl ?_
    refine g_iconst (v := 2) d_In_readOperands_127 (by decide) ?_
    obtain ⟨q128, hq128, h⟩ := it_b h
    refine g_callV (ci := 5) (q := (xR_Rd, xF_Rd, 4)) (As := [.int 2]) (rest := [.ref a_t]) (st2 := [.int q128.1, .ref a_t]) (ws2 := [(a_t, .inr (2, [.int t_operation, .int t_register, .int t_number, .int t_bytesFrom])), (a_rd, .inr (5, [.ref a_bb, .int q128.2.1, .int rd_limit, .int q128.2.2])), (a_bb, .inl (K 0, 512, .inl bb))]) (c_Rd_unsigned l D K a_rd a_bb rd_at rd_limit rd_broken bb 2 q128 hq128) (cs_In_9 rfl rfl ⟨Nat.le_of_ble_eq_true rfl, Nat.le_of_ble_eq_true rfl⟩) rfl 1 rfl (gOver.mk2 [1, 2] [none, some 0, some 1] (by decide) (by decide) rfl rfl rfl) (Nat.le_of_ble_eq_true rfl) ⟨Nat.le_of_ble_eq_true rfl, Nat.le_of_ble_eq_true rfl⟩ d_In_readOperands_128 rfl rfl ?_
    refine pf_In_21 0 rfl (v := .int q128.1) rfl rfl (Nat.le_of_ble_eq_true rfl) (ws' := [(a_t, .inr (2, [.int t_operation, .int t_register, .int q128.1, .int t_bytesFrom])), (a_rd, .inr (5, [.ref a_bb, .int q128.2.1, .int rd_limit, .int q128.2.2])), (a_bb, .inl (K 0, 512, .inl bb))]) rfl d_In_readOperands_131 ?_
    refine g_iconst (v := 1) d_In_readOperands_134 (by decide) ?_
    obtain rfl := Option.some.inj h
    exact g_zret (v := 1) rfl (by decide) d_In_readOperands_135
  replace h := it_f hc4_125 h
  by_cases hc4_157 : t_operation = 5 ∨ t_operation = 12 ∨ t_operation = 20
  · replace h := it_t hc4_157 h
    refine g_table (off := 153) (tgt := 157) d_In_readOperands_4 (by decide) (by rcases hc4_157 with hc | hc | hc <;> (rw [hc]; decide +kernel)) (by decide) ?_
    refine g_aload_n d_In_readOperands_157 rfl ?_
    refine g_aload_n d_In_readOperands_158 rfl ?_
    obtain ⟨q159, hq159, h⟩ := it_b h
    refine g_callV (ci := 5) (q := (xR_Rd, xF_Rd, 4)) (As := []) (rest := [.ref a_t]) (st2 := [.int q159.1, .ref a_t]) (ws2 := [(a_t, .inr (2, [.int t_operation, .int t_register, .int t_number, .int t_bytesFrom])), (a_rd, .inr (5, [.ref a_bb, .int q159.2.1, .int rd_limit, .int q159.2.2])), (a_bb, .inl (K 0, 512, .inl bb))]) (c_Rd_uleb l D K a_rd a_bb rd_at rd_limit rd_broken bb q159 hq159) (cs_In_30 rfl rfl ⟨Nat.le_of_ble_eq_true rfl, Nat.le_of_ble_eq_true rfl⟩) rfl 1 rfl (gOver.mk2 [1, 2] [none, some 0, some 1] (by decide) (by decide) rfl rfl rfl) (Nat.le_of_ble_eq_true rfl) ⟨Nat.le_of_ble_eq_true rfl, Nat.le_of_ble_eq_true rfl⟩ d_In_readOperands_159 rfl rfl ?_
    refine pf_In_15 0 rfl (v := .int q159.1) rfl rfl (Nat.le_of_ble_eq_true rfl) (ws' := [(a_t, .inr (2, [.int t_operation, .int q159.1, .int t_number, .int t_bytesFrom])), (a_rd, .inr (5, [.ref a_bb, .int q159.2.1, .int rd_limit, .int q159.2.2])), (a_bb, .inl (K 0, 512, .inl bb))]) rfl d_In_readOperands_162 ?_
    refine g_aload_n d_In_readOperands_165 rfl ?_
    refine g_aload_n d_In_readOperands_166 rfl ?_
    obtain ⟨q167, hq167, h⟩ := it_b h
    refine g_callV (ci := 5) (q := (xR_Rd, xF_Rd, 4)) (As := []) (rest := [.ref a_t]) (st2 := [.int q167.1, .ref a_t]) (ws2 := [(a_t, .inr (2, [.int t_operation, .int q159.1, .int t_number, .int t_bytesFrom])), (a_rd, .inr (5, [.ref a_bb, .int q167.2.1, .int rd_limit, .int q167.2.2])), (a_bb, .inl (K 0, 512, .inl bb))]) (c_Rd_uleb l D K a_rd a_bb q159.2.1 rd_limit q159.2.2 bb q167 hq167) (cs_In_30 rfl rfl ⟨Nat.le_of_ble_eq_true rfl, Nat.le_of_ble_eq_true rfl⟩) rfl 1 rfl (gOver.mk2 [1, 2] [none, some 0, some 1] (by decide) (by decide) rfl rfl rfl) (Nat.le_of_ble_eq_true rfl) ⟨Nat.le_of_ble_eq_true rfl, Nat.le_of_ble_eq_true rfl⟩ d_In_readOperands_167 rfl rfl ?_
    refine pf_In_21 0 rfl (v := .int q167.1) rfl rfl (Nat.le_of_ble_eq_true rfl) (ws' := [(a_t, .inr (2, [.int t_operation, .int q159.1, .int q167.1, .int t_bytesFrom])), (a_rd, .inr (5, [.ref a_bb, .int q167.2.1, .int rd_limit, .int q167.2.2])), (a_bb, .inl (K 0, 512, .inl bb))]) rfl d_In_readOperands_170 ?_
    refine g_iconst (v := 1) d_In_readOperands_173 (by decide) ?_
    obtain rfl := Option.some.inj h
    exact g_zret (v := 1) rfl (by decide) d_In_readOperands_174
  replace h := it_f hc4_157 h
  by_cases hc4_147 : t_operation = 6 ∨ t_operation = 7 ∨ t_operation = 8 ∨ t_operation = 13
  · replace h := it_t hc4_147 h
    refine g_table (off := 143) (tgt := 147) d_In_readOperands_4 (by decide) (by rcases hc4_147 with hc | hc | hc | hc <;> (rw [hc]; decide +kernel)) (by decide) ?_
    refine g_aload_n d_In_readOperands_147 rfl ?_
    refine g_aload_n d_In_readOperands_148 rfl ?_
    obtain ⟨q149, hq149, h⟩ := it_b h
    refine g_callV (ci := 5) (q := (xR_Rd, xF_Rd, 4)) (As := []) (rest := [.ref a_t]) (st2 := [.int q149.1, .ref a_t]) (ws2 := [(a_t, .inr (2, [.int t_operation, .int t_register, .int t_number, .int t_bytesFrom])), (a_rd, .inr (5, [.ref a_bb, .int q149.2.1, .int rd_limit, .int q149.2.2])), (a_bb, .inl (K 0, 512, .inl bb))]) (c_Rd_uleb l D K a_rd a_bb rd_at rd_limit rd_broken bb q149 hq149) (cs_In_30 rfl rfl ⟨Nat.le_of_ble_eq_true rfl, Nat.le_of_ble_eq_true rfl⟩) rfl 1 rfl (gOver.mk2 [1, 2] [none, some 0, some 1] (by decide) (by decide) rfl rfl rfl) (Nat.le_of_ble_eq_true rfl) ⟨Nat.le_of_ble_eq_true rfl, Nat.le_of_ble_eq_true rfl⟩ d_In_readOperands_149 rfl rfl ?_
    refine pf_In_15 0 rfl (v := .int q149.1) rfl rfl (Nat.le_of_ble_eq_true rfl) (ws' := [(a_t, .inr (2, [.int t_operation, .int q149.1, .int t_number, .int t_bytesFrom])), (a_rd, .inr (5, [.ref a_bb, .int q149.2.1, .int rd_limit, .int q149.2.2])), (a_bb, .inl (K 0, 512, .inl bb))]) rfl d_In_readOperands_152 ?_
    refine g_iconst (v := 1) d_In_readOperands_155 (by decide) ?_
    obtain rfl := Option.some.inj h
    exact g_zret (v := 1) rfl (by decide) d_In_readOperands_156
  replace h := it_f hc4_147 h
  by_cases hc4_193 : t_operation = 9
  · replace h := it_t hc4_193 h
    refine g_table (off := 189) (tgt := 193) d_In_readOperands_4 (by decide) (by rw [hc4_193]; decide +kernel) (by decide) ?_
    refine g_aload_n d_In_readOperands_193 rfl ?_
    refine g_aload_n d_In_readOperands_194 rfl ?_
    obtain ⟨q195, hq195, h⟩ := it_b h
    refine g_callV (ci := 5) (q := (xR_Rd, xF_Rd, 4)) (As := []) (rest := [.ref a_t]) (st2 := [.int q195.1, .ref a_t]) (ws2 := [(a_t, .inr (2, [.int t_operation, .int t_register, .int t_number, .int t_bytesFrom])), (a_rd, .inr (5, [.ref a_bb, .int q195.2.1, .int rd_limit, .int q195.2.2])), (a_bb, .inl (K 0, 512, .inl bb))]) (c_Rd_uleb l D K a_rd a_bb rd_at rd_limit rd_broken bb q195 hq195) (cs_In_30 rfl rfl ⟨Nat.le_of_ble_eq_true rfl, Nat.le_of_ble_eq_true rfl⟩) rfl 1 rfl (gOver.mk2 [1, 2] [none, some 0, some 1] (by decide) (by decide) rfl rfl rfl) (Nat.le_of_ble_eq_true rfl) ⟨Nat.le_of_ble_eq_true rfl, Nat.le_of_ble_eq_true rfl⟩ d_In_readOperands_195 rfl rfl ?_
    refine pf_In_15 0 rfl (v := .int q195.1) rfl rfl (Nat.le_of_ble_eq_true rfl) (ws' := [(a_t, .inr (2, [.int t_operation, .int q195.1, .int t_number, .int t_bytesFrom])), (a_rd, .inr (5, [.ref a_bb, .int q195.2.1, .int rd_limit, .int q195.2.2])), (a_bb, .inl (K 0, 512, .inl bb))]) rfl d_In_readOperands_198 ?_
    refine g_aload_n d_In_readOperands_201 rfl ?_
    refine g_aload_n d_In_readOperands_202 rfl ?_
    obtain ⟨q203, hq203, h⟩ := it_b h
    refine g_callV (ci := 5) (q := (xR_Rd, xF_Rd, 4)) (As := []) (rest := [.ref a_t]) (st2 := [.int q203.1, .ref a_t]) (ws2 := [(a_t, .inr (2, [.int t_operation, .int q195.1, .int t_number, .int t_bytesFrom])), (a_rd, .inr (5, [.ref a_bb, .int q203.2.1, .int rd_limit, .int q203.2.2])), (a_bb, .inl (K 0, 512, .inl bb))]) (c_Rd_uleb l D K a_rd a_bb q195.2.1 rd_limit q195.2.2 bb q203 hq203) (cs_In_30 rfl rfl ⟨Nat.le_of_ble_eq_true rfl, Nat.le_of_ble_eq_true rfl⟩) rfl 1 rfl (gOver.mk2 [1, 2] [none, some 0, some 1] (by decide) (by decide) rfl rfl rfl) (Nat.le_of_ble_eq_true rfl) ⟨Nat.le_of_ble_eq_true rfl, Nat.le_of_ble_eq_true rfl⟩ d_In_readOperands_203 rfl rfl ?_
    refine pf_In_21 0 rfl (v := .int q203.1) rfl rfl (Nat.le_of_ble_eq_true rfl) (ws' := [(a_t, .inr (2, [.int t_operation, .int q195.1, .int q203.1, .int t_bytesFrom])), (a_rd, .inr (5, [.ref a_bb, .int q203.2.1, .int rd_limit, .int q203.2.2])), (a_bb, .inl (K 0, 512, .inl bb))]) rfl d_In_readOperands_206 ?_
    refine g_aload_n d_In_readOperands_209 rfl ?_
    refine gf_In_21 0 rfl (v := .int q203.1) rfl d_In_readOperands_210 ?_
    refine g_if_lt (tgt := 229) d_In_readOperands_213 (by decide) (fun hc => ?_) (fun hc => ?_)
    · replace h := it_t hc h
      refine g_iconst (v := 0) d_In_readOperands_229 (by decide) ?_
      obtain rfl := Option.some.inj h
      exact g_zret (v := 0) rfl (by decide) d_In_readOperands_230
    · replace h := it_f hc h
      refine g_aload_n d_In_readOperands_216 rfl ?_
      refine gf_In_21 0 rfl (v := .int q203.1) rfl d_In_readOperands_217 ?_
      refine g_bipush (v := 8) d_In_readOperands_220 (by decide) ?_
      refine g_icmp_ge (tgt := 229) d_In_readOperands_222 (by decide) (fun hc => ?_) (fun hc => ?_)
      · replace h := it_t hc h
        refine g_iconst (v := 0) d_In_readOperands_229 (by decide) ?_
        obtain rfl := Option.some.inj h
        exact g_zret (v := 0) rfl (by decide) d_In_readOperands_230
      · replace h := it_f hc h
        refine g_iconst (v := 1) d_In_readOperands_225 (by decide) ?_
        refine g_goto (tgt := 230) d_In_readOperands_226 (by decide) ?_
        obtain rfl := Option.some.inj h
        exact g_zret (v := 1) rfl (by decide) d_In_readOperands_230
  replace h := it_f hc4_193 h
  by_cases hc4_231 : t_operation = 14
  · replace h := it_t hc4_231 h
    refine g_table (off := 227) (tgt := 231) d_In_readOperands_4 (by decide) (by rw [hc4_231]; decide +kernel) (by decide) ?_
    refine g_aload_n d_In_readOperands_231 rfl ?_
    refine g_aload_n d_In_readOperands_232 rfl ?_
    obtain ⟨q233, hq233, h⟩ := it_b h
    refine g_callV (ci := 5) (q := (xR_Rd, xF_Rd, 4)) (As := []) (rest := [.ref a_t]) (st2 := [.int q233.1, .ref a_t]) (ws2 := [(a_t, .inr (2, [.int t_operation, .int t_register, .int t_number, .int t_bytesFrom])), (a_rd, .inr (5, [.ref a_bb, .int q233.2.1, .int rd_limit, .int q233.2.2])), (a_bb, .inl (K 0, 512, .inl bb))]) (c_Rd_uleb l D K a_rd a_bb rd_at rd_limit rd_broken bb q233 hq233) (cs_In_30 rfl rfl ⟨Nat.le_of_ble_eq_true rfl, Nat.le_of_ble_eq_true rfl⟩) rfl 1 rfl (gOver.mk2 [1, 2] [none, some 0, some 1] (by decide) (by decide) rfl rfl rfl) (Nat.le_of_ble_eq_true rfl) ⟨Nat.le_of_ble_eq_true rfl, Nat.le_of_ble_eq_true rfl⟩ d_In_readOperands_233 rfl rfl ?_
    refine pf_In_21 0 rfl (v := .int q233.1) rfl rfl (Nat.le_of_ble_eq_true rfl) (ws' := [(a_t, .inr (2, [.int t_operation, .int t_register, .int q233.1, .int t_bytesFrom])), (a_rd, .inr (5, [.ref a_bb, .int q233.2.1, .int rd_limit, .int q233.2.2])), (a_bb, .inl (K 0, 512, .inl bb))]) rfl d_In_readOperands_236 ?_
    refine g_iconst (v := 1) d_In_readOperands_239 (by decide) ?_
    obtain rfl := Option.some.inj h
    exact g_zret (v := 1) rfl (by decide) d_In_readOperands_240
  replace h := it_f hc4_231 h
  by_cases hc4_266 : t_operation = 15
  · replace h := it_t hc4_266 h
    refine g_table (off := 262) (tgt := 266) d_In_readOperands_4 (by decide) (by rw [hc4_266]; decide +kernel) (by decide) ?_
    refine g_aload_n d_In_readOperands_266 rfl ?_
    refine g_aload_n d_In_readOperands_267 rfl ?_
    obtain ⟨q268, hq268, h⟩ := it_b h
    refine g_callV (ci := 2) (q := (xR_In, xF_In, 4)) (As := [.ref a_rd]) (rest := []) (st2 := []) (ws2 := [(a_t, .inr (2, [.int t_operation, .int t_register, .int q268.1, .int q268.2.1])), (a_rd, .inr (5, [.ref a_bb, .int q268.2.2.1, .int rd_limit, .int q268.2.2.2])), (a_bb, .inl (K 0, 512, .inl bb))]) (c_In_readBlock l D K a_t a_rd a_bb t_operation t_register t_number t_bytesFrom rd_at rd_limit rd_broken bb q268 hq268) (cs_In_45 rfl rfl ⟨Nat.le_of_ble_eq_true rfl, Nat.le_of_ble_eq_true rfl⟩) rfl 0 rfl (gOver.mk2 [0, 1, 2] [some 0, some 1, some 2] (by decide) (by decide) rfl rfl rfl) (Nat.le_of_ble_eq_true rfl) ⟨Nat.le_of_ble_eq_true rfl, Nat.le_of_ble_eq_true rfl⟩ d_In_readOperands_268 rfl rfl ?_
    refine g_iconst (v := 1) d_In_readOperands_271 (by decide) ?_
    obtain rfl := Option.some.inj h
    exact g_zret (v := 1) rfl (by decide) d_In_readOperands_272
  replace h := it_f hc4_266 h
  by_cases hc4_251 : t_operation = 16 ∨ t_operation = 22
  · replace h := it_t hc4_251 h
    refine g_table (off := 247) (tgt := 251) d_In_readOperands_4 (by decide) (by rcases hc4_251 with hc | hc <;> (rw [hc]; decide +kernel)) (by decide) ?_
    refine g_aload_n d_In_readOperands_251 rfl ?_
    refine g_aload_n d_In_readOperands_252 rfl ?_
    obtain ⟨q253, hq253, h⟩ := it_b h
    refine g_callV (ci := 5) (q := (xR_Rd, xF_Rd, 4)) (As := []) (rest := [.ref a_t]) (st2 := [.int q253.1, .ref a_t]) (ws2 := [(a_t, .inr (2, [.int t_operation, .int t_register, .int t_number, .int t_bytesFrom])), (a_rd, .inr (5, [.ref a_bb, .int q253.2.1, .int rd_limit, .int q253.2.2])), (a_bb, .inl (K 0, 512, .inl bb))]) (c_Rd_uleb l D K a_rd a_bb rd_at rd_limit rd_broken bb q253 hq253) (cs_In_30 rfl rfl ⟨Nat.le_of_ble_eq_true rfl, Nat.le_of_ble_eq_true rfl⟩) rfl 1 rfl (gOver.mk2 [1, 2] [none, some 0, some 1] (by decide) (by decide) rfl rfl rfl) (Nat.le_of_ble_eq_true rfl) ⟨Nat.le_of_ble_eq_true rfl, Nat.le_of_ble_eq_true rfl⟩ d_In_readOperands_253 rfl rfl ?_
    refine pf_In_15 0 rfl (v := .int q253.1) rfl rfl (Nat.le_of_ble_eq_true rfl) (ws' := [(a_t, .inr (2, [.int t_operation, .int q253.1, .int t_number, .int t_bytesFrom])), (a_rd, .inr (5, [.ref a_bb, .int q253.2.1, .int rd_limit, .int q253.2.2])), (a_bb, .inl (K 0, 512, .inl bb))]) rfl d_In_readOperands_256 ?_
    refine g_aload_n d_In_readOperands_259 rfl ?_
    refine g_aload_n d_In_readOperands_260 rfl ?_
    obtain ⟨q261, hq261, h⟩ := it_b h
    refine g_callV (ci := 2) (q := (xR_In, xF_In, 4)) (As := [.ref a_rd]) (rest := []) (st2 := []) (ws2 := [(a_t, .inr (2, [.int t_operation, .int q253.1, .int q261.1, .int q261.2.1])), (a_rd, .inr (5, [.ref a_bb, .int q261.2.2.1, .int rd_limit, .int q261.2.2.2])), (a_bb, .inl (K 0, 512, .inl bb))]) (c_In_readBlock l D K a_t a_rd a_bb t_operation q253.1 t_number t_bytesFrom q253.2.1 rd_limit q253.2.2 bb q261 hq261) (cs_In_45 rfl rfl ⟨Nat.le_of_ble_eq_true rfl, Nat.le_of_ble_eq_true rfl⟩) rfl 0 rfl (gOver.mk2 [0, 1, 2] [some 0, some 1, some 2] (by decide) (by decide) rfl rfl rfl) (Nat.le_of_ble_eq_true rfl) ⟨Nat.le_of_ble_eq_true rfl, Nat.le_of_ble_eq_true rfl⟩ d_In_readOperands_261 rfl rfl ?_
    refine g_iconst (v := 1) d_In_readOperands_264 (by decide) ?_
    obtain rfl := Option.some.inj h
    exact g_zret (v := 1) rfl (by decide) d_In_readOperands_265
  replace h := it_f hc4_251 h
  by_cases hc4_175 : t_operation = 17 ∨ t_operation = 18 ∨ t_operation = 21
  · replace h := it_t hc4_175 h
    refine g_table (off := 171) (tgt := 175) d_In_readOperands_4 (by decide) (by rcases hc4_175 with hc | hc | hc <;> (rw [hc]; decide +kernel)) (by decide) ?_
    refine g_aload_n d_In_readOperands_175 rfl ?_
    refine g_aload_n d_In_readOperands_176 rfl ?_
    obtain ⟨q177, hq177, h⟩ := it_b h
    refine g_callV (ci := 5) (q := (xR_Rd, xF_Rd, 4)) (As := []) (rest := [.ref a_t]) (st2 := [.int q177.1, .ref a_t]) (ws2 := [(a_t, .inr (2, [.int t_operation, .int t_register, .int t_number, .int t_bytesFrom])), (a_rd, .inr (5, [.ref a_bb, .int q177.2.1, .int rd_limit, .int q177.2.2])), (a_bb, .inl (K 0, 512, .inl bb))]) (c_Rd_uleb l D K a_rd a_bb rd_at rd_limit rd_broken bb q177 hq177) (cs_In_30 rfl rfl ⟨Nat.le_of_ble_eq_true rfl, Nat.le_of_ble_eq_true rfl⟩) rfl 1 rfl (gOver.mk2 [1, 2] [none, some 0, some 1] (by decide) (by decide) rfl rfl rfl) (Nat.le_of_ble_eq_true rfl) ⟨Nat.le_of_ble_eq_true rfl, Nat.le_of_ble_eq_true rfl⟩ d_In_readOperands_177 rfl rfl ?_
    refine pf_In_15 0 rfl (v := .int q177.1) rfl rfl (Nat.le_of_ble_eq_true rfl) (ws' := [(a_t, .inr (2, [.int t_operation, .int q177.1, .int t_number, .int t_bytesFrom])), (a_rd, .inr (5, [.ref a_bb, .int q177.2.1, .int rd_limit, .int q177.2.2])), (a_bb, .inl (K 0, 512, .inl bb))]) rfl d_In_readOperands_180 ?_
    refine g_aload_n d_In_readOperands_183 rfl ?_
    refine g_aload_n d_In_readOperands_184 rfl ?_
    obtain ⟨q185, hq185, h⟩ := it_b h
    refine g_callV (ci := 5) (q := (xR_Rd, xF_Rd, 4)) (As := []) (rest := [.ref a_t]) (st2 := [.int q185.1, .ref a_t]) (ws2 := [(a_t, .inr (2, [.int t_operation, .int q177.1, .int t_number, .int t_bytesFrom])), (a_rd, .inr (5, [.ref a_bb, .int q185.2.1, .int rd_limit, .int q185.2.2])), (a_bb, .inl (K 0, 512, .inl bb))]) (c_Rd_sleb l D K a_rd a_bb q177.2.1 rd_limit q177.2.2 bb q185 hq185) (cs_In_42 rfl rfl ⟨Nat.le_of_ble_eq_true rfl, Nat.le_of_ble_eq_true rfl⟩) rfl 1 rfl (gOver.mk2 [1, 2] [none, some 0, some 1] (by decide) (by decide) rfl rfl rfl) (Nat.le_of_ble_eq_true rfl) ⟨Nat.le_of_ble_eq_true rfl, Nat.le_of_ble_eq_true rfl⟩ d_In_readOperands_185 rfl rfl ?_
    refine pf_In_21 0 rfl (v := .int q185.1) rfl rfl (Nat.le_of_ble_eq_true rfl) (ws' := [(a_t, .inr (2, [.int t_operation, .int q177.1, .int q185.1, .int t_bytesFrom])), (a_rd, .inr (5, [.ref a_bb, .int q185.2.1, .int rd_limit, .int q185.2.2])), (a_bb, .inl (K 0, 512, .inl bb))]) rfl d_In_readOperands_188 ?_
    refine g_iconst (v := 1) d_In_readOperands_191 (by decide) ?_
    obtain rfl := Option.some.inj h
    exact g_zret (v := 1) rfl (by decide) d_In_readOperands_192
  replace h := it_f hc4_175 h
  by_cases hc4_241 : t_operation = 19
  · replace h := it_t hc4_241 h
    refine g_table (off := 237) (tgt := 241) d_In_readOperands_4 (by decide) (by rw [hc4_241]; decide +kernel) (by decide) ?_
    refine g_aload_n d_In_readOperands_241 rfl ?_
    refine g_aload_n d_In_readOperands_242 rfl ?_
    obtain ⟨q243, hq243, h⟩ := it_b h
    refine g_callV (ci := 5) (q := (xR_Rd, xF_Rd, 4)) (As := []) (rest := [.ref a_t]) (st2 := [.int q243.1, .ref a_t]) (ws2 := [(a_t, .inr (2, [.int t_operation, .int t_register, .int t_number, .int t_bytesFrom])), (a_rd, .inr (5, [.ref a_bb, .int q243.2.1, .int rd_limit, .int q243.2.2])), (a_bb, .inl (K 0, 512, .inl bb))]) (c_Rd_sleb l D K a_rd a_bb rd_at rd_limit rd_broken bb q243 hq243) (cs_In_42 rfl rfl ⟨Nat.le_of_ble_eq_true rfl, Nat.le_of_ble_eq_true rfl⟩) rfl 1 rfl (gOver.mk2 [1, 2] [none, some 0, some 1] (by decide) (by decide) rfl rfl rfl) (Nat.le_of_ble_eq_true rfl) ⟨Nat.le_of_ble_eq_true rfl, Nat.le_of_ble_eq_true rfl⟩ d_In_readOperands_243 rfl rfl ?_
    refine pf_In_21 0 rfl (v := .int q243.1) rfl rfl (Nat.le_of_ble_eq_true rfl) (ws' := [(a_t, .inr (2, [.int t_operation, .int t_register, .int q243.1, .int t_bytesFrom])), (a_rd, .inr (5, [.ref a_bb, .int q243.2.1, .int rd_limit, .int q243.2.2])), (a_bb, .inl (K 0, 512, .inl bb))]) rfl d_In_readOperands_246 ?_
    refine g_iconst (v := 1) d_In_readOperands_249 (by decide) ?_
    obtain rfl := Option.some.inj h
    exact g_zret (v := 1) rfl (by decide) d_In_readOperands_250
  replace h := it_f hc4_241 h
  refine g_table (off := 269) (tgt := 273) d_In_readOperands_4 (by decide) (by simp only [gTabL]; rw [lv_osw (fun z => hc4_112 (Or.inl z)) (by decide), lv_osw (fun z => hc4_136 (Or.inl z)) (by decide), lv_osw hc4_114 (by decide), lv_osw hc4_125 (by decide), lv_osw (fun z => hc4_136 (Or.inr z)) (by decide), lv_osw (fun z => hc4_157 (Or.inl z)) (by decide), lv_osw (fun z => hc4_147 (Or.inl z)) (by decide), lv_osw (fun z => hc4_147 (Or.inr (Or.inl z))) (by decide), lv_osw (fun z => hc4_147 (Or.inr (Or.inr (Or.inl z)))) (by decide), lv_osw hc4_193 (by decide), lv_osw (fun z => hc4_112 (Or.inr (Or.inl z))) (by decide), lv_osw (fun z => hc4_112 (Or.inr (Or.inr z))) (by decide), lv_osw (fun z => hc4_157 (Or.inr (Or.inl z))) (by decide), lv_osw (fun z => hc4_147 (Or.inr (Or.inr (Or.inr z)))) (by decide), lv_osw hc4_231 (by decide), lv_osw hc4_266 (by decide), lv_osw (fun z => hc4_251 (Or.inl z)) (by decide), lv_osw (fun z => hc4_175 (Or.inl z)) (by decide), lv_osw (fun z => hc4_175 (Or.inr (Or.inl z))) (by decide), lv_osw hc4_241 (by decide), lv_osw (fun z => hc4_157 (Or.inr (Or.inr z))) (by decide), lv_osw (fun z => hc4_175 (Or.inr (Or.inr z))) (by decide), lv_osw (fun z => hc4_251 (Or.inr z)) (by decide)]; rfl) (by decide) ?_
  refine g_iconst (v := 0) d_In_readOperands_273 (by decide) ?_
  obtain rfl := Option.some.inj h
  exact g_zret (v := 0) rfl (by decide) d_In_readOperands_274
def f_In_readFrom_119 (t_operation : Int32) (t_register : Int32) (t_number : Int32) (t_bytesFrom : Int32) (rd_at : Int32) (rd_limit : Int32) (rd_broken : Int32) (bb : Nat → Int32) (x2 : Int32) (x3 : Int32) : Option (Int32 × Int32 × Int32 × Int32 × Int32 × Int32 × Int32) := if rd_broken = 0 then (if t_register < 0 then (some (0, t_operation, t_register, t_number, t_bytesFrom, rd_at, rd_broken)) else (if 8 ≤ t_register then (some (0, t_operation, t_register, t_number, t_bytesFrom, rd_at, rd_broken)) else (some (1, t_operation, t_register, t_number, t_bytesFrom, rd_at, rd_broken)))) else (some (0, t_operation, t_register, t_number, t_bytesFrom, rd_at, rd_broken))
set_option maxRecDepth 100000 in
set_option maxHeartbeats 4000000 in
theorem j_In_readFrom_119 (l : Launch) (D : va_G) (K : Nat → ClassId) (a_t a_rd a_bb : Nat) {av : List Value} {w0 : va_W} (t_operation : Int32) (t_register : Int32) (t_number : Int32) (t_bytesFrom : Int32) (rd_at : Int32) (rd_limit : Int32) (rd_broken : Int32) (bb : Nat → Int32) (x2 : Int32) (x3 : Int32) (o : Int32 × Int32 × Int32 × Int32 × Int32 × Int32 × Int32) (h : f_In_readFrom_119 t_operation t_register t_number t_bytesFrom rd_at rd_limit rd_broken bb x2 x3 = some o) : Gm l y_In_readFrom b_In_readFrom 4 (some .boolean) { frames := 3, cells := 0, slots := 0, locals := 67 } D vwCl (xTy K) av w0 (CtF D vwCl av w0 (some (.int o.1)) [(a_t, .inr (2, [.int o.2.1, .int o.2.2.1, .int o.2.2.2.1, .int o.2.2.2.2.1])), (a_rd, .inr (5, [.ref a_bb, .int o.2.2.2.2.2.1, .int rd_limit, .int o.2.2.2.2.2.2])), (a_bb, .inl (K 0, 512, .inl bb))]) 0 0 [(a_t, .inr (2, [.int t_operation, .int t_register, .int t_number, .int t_bytesFrom])), (a_rd, .inr (5, [.ref a_bb, .int rd_at, .int rd_limit, .int rd_broken])), (a_bb, .inl (K 0, 512, .inl bb))] [(0, .ref a_t), (1, .ref a_rd), (2, .int x2), (3, .int x3)] 119 [] := by
  unfold f_In_readFrom_119 at h
  refine g_aload_n d_In_readFrom_119 rfl ?_
  refine gf_In_38 1 rfl (v := .int rd_broken) rfl d_In_readFrom_120 ?_
  refine g_if_ne (tgt := 146) d_In_readFrom_123 (by decide) (fun hc => ?_) (fun hc => ?_)
  · replace h := it_f hc h
    refine g_iconst (v := 0) d_In_readFrom_146 (by decide) ?_
    obtain rfl := Option.some.inj h
    exact g_zret (v := 0) rfl (by decide) d_In_readFrom_147
  · replace h := it_t hc h
    refine g_aload_n d_In_readFrom_126 rfl ?_
    refine gf_In_15 0 rfl (v := .int t_register) rfl d_In_readFrom_127 ?_
    refine g_if_lt (tgt := 146) d_In_readFrom_130 (by decide) (fun hc => ?_) (fun hc => ?_)
    · replace h := it_t hc h
      refine g_iconst (v := 0) d_In_readFrom_146 (by decide) ?_
      obtain rfl := Option.some.inj h
      exact g_zret (v := 0) rfl (by decide) d_In_readFrom_147
    · replace h := it_f hc h
      refine g_aload_n d_In_readFrom_133 rfl ?_
      refine gf_In_15 0 rfl (v := .int t_register) rfl d_In_readFrom_134 ?_
      refine g_bipush (v := 8) d_In_readFrom_137 (by decide) ?_
      refine g_icmp_ge (tgt := 146) d_In_readFrom_139 (by decide) (fun hc => ?_) (fun hc => ?_)
      · replace h := it_t hc h
        refine g_iconst (v := 0) d_In_readFrom_146 (by decide) ?_
        obtain rfl := Option.some.inj h
        exact g_zret (v := 0) rfl (by decide) d_In_readFrom_147
      · replace h := it_f hc h
        refine g_iconst (v := 1) d_In_readFrom_142 (by decide) ?_
        refine g_goto (tgt := 147) d_In_readFrom_143 (by decide) ?_
        obtain rfl := Option.some.inj h
        exact g_zret (v := 1) rfl (by decide) d_In_readFrom_147
def f_In_readFrom (t_operation : Int32) (t_register : Int32) (t_number : Int32) (t_bytesFrom : Int32) (rd_at : Int32) (rd_limit : Int32) (rd_broken : Int32) (bb : Nat → Int32) : Option (Int32 × Int32 × Int32 × Int32 × Int32 × Int32 × Int32) := ((f_Rd_unsigned rd_at rd_limit rd_broken bb 1).bind fun q2 => if (q2.1 >>> (6 &&& 31)) = 1 then (f_In_readFrom_119 2 0 (q2.1 &&& 63) 0 q2.2.1 rd_limit q2.2.2 bb q2.1 (q2.1 &&& 63)) else if (q2.1 >>> (6 &&& 31)) = 2 then (((f_Rd_uleb q2.2.1 rd_limit q2.2.2 bb).bind fun q81 => f_In_readFrom_119 5 (q2.1 &&& 63) q81.1 0 q81.2.1 rd_limit q81.2.2 bb q2.1 (q2.1 &&& 63))) else if (q2.1 >>> (6 &&& 31)) = 3 then (f_In_readFrom_119 6 (q2.1 &&& 63) 0 0 q2.2.1 rd_limit q2.2.2 bb q2.1 (q2.1 &&& 63)) else ((f_In_readOperands (q2.1 &&& 63) 0 0 0 q2.2.1 rd_limit q2.2.2 bb).bind fun q111 => if q111.1 = 0 then (some (0, q2.1 &&& 63, q111.2.1, q111.2.2.1, q111.2.2.2.1, q111.2.2.2.2.1, q111.2.2.2.2.2)) else (f_In_readFrom_119 (q2.1 &&& 63) q111.2.1 q111.2.2.1 q111.2.2.2.1 q111.2.2.2.2.1 rd_limit q111.2.2.2.2.2 bb q2.1 (q2.1 &&& 63))))
set_option maxRecDepth 100000 in
set_option maxHeartbeats 4000000 in
theorem c_In_readFrom (l : Launch) (D : va_G) (K : Nat → ClassId) (a_t a_rd a_bb : Nat) (t_operation : Int32) (t_register : Int32) (t_number : Int32) (t_bytesFrom : Int32) (rd_at : Int32) (rd_limit : Int32) (rd_broken : Int32) (bb : Nat → Int32) (o : Int32 × Int32 × Int32 × Int32 × Int32 × Int32 × Int32) (h : f_In_readFrom t_operation t_register t_number t_bytesFrom rd_at rd_limit rd_broken bb = some o) : Ct l y_In_readFrom b_In_readFrom 4 (some .boolean) { frames := 3, cells := 0, slots := 0, locals := 67 } D vwCl (xTy K) [.ref a_t, .ref a_rd] [(a_t, .inr (2, [.int t_operation, .int t_register, .int t_number, .int t_bytesFrom])), (a_rd, .inr (5, [.ref a_bb, .int rd_at, .int rd_limit, .int rd_broken])), (a_bb, .inl (K 0, 512, .inl bb))] (some (.int o.1)) [(a_t, .inr (2, [.int o.2.1, .int o.2.2.1, .int o.2.2.2.1, .int o.2.2.2.2.1])), (a_rd, .inr (5, [.ref a_bb, .int o.2.2.2.2.2.1, .int rd_limit, .int o.2.2.2.2.2.2])), (a_bb, .inl (K 0, 512, .inl bb))] := by
  refine Ct.ofG (by decide) (Nat.le_of_ble_eq_true rfl) ?_
  refine g_L (L' := [(0, .ref a_t), (1, .ref a_rd)]) rfl ?_
  unfold f_In_readFrom at h
  refine g_aload_n d_In_readFrom_0 rfl ?_
  refine g_iconst (v := 1) d_In_readFrom_1 (by decide) ?_
  obtain ⟨q2, hq2, h⟩ := it_b h
  refine g_callV (ci := 5) (q := (xR_Rd, xF_Rd, 4)) (As := [.int 1]) (rest := []) (st2 := [.int q2.1]) (ws2 := [(a_t, .inr (2, [.int t_operation, .int t_register, .int t_number, .int t_bytesFrom])), (a_rd, .inr (5, [.ref a_bb, .int q2.2.1, .int rd_limit, .int q2.2.2])), (a_bb, .inl (K 0, 512, .inl bb))]) (c_Rd_unsigned l D K a_rd a_bb rd_at rd_limit rd_broken bb 1 q2 hq2) (cs_In_9 rfl rfl ⟨Nat.le_of_ble_eq_true rfl, Nat.le_of_ble_eq_true rfl⟩) rfl 1 rfl (gOver.mk2 [1, 2] [none, some 0, some 1] (by decide) (by decide) rfl rfl rfl) (Nat.le_of_ble_eq_true rfl) ⟨Nat.le_of_ble_eq_true rfl, Nat.le_of_ble_eq_true rfl⟩ d_In_readFrom_2 rfl rfl ?_
  refine g_istore_n (L' := [(2, .int q2.1), (0, .ref a_t), (1, .ref a_rd)]) d_In_readFrom_5 (by decide) rfl ?_
  refine g_iload_n d_In_readFrom_6 rfl ?_
  refine g_bipush (v := 63) d_In_readFrom_7 (by decide) ?_
  refine g_iand d_In_readFrom_9 ?_
  refine g_istore_n (L' := [(3, .int (q2.1 &&& 63)), (2, .int q2.1), (0, .ref a_t), (1, .ref a_rd)]) d_In_readFrom_10 (by decide) rfl ?_
  refine g_aload_n d_In_readFrom_11 rfl ?_
  refine g_iconst (v := 0) d_In_readFrom_12 (by decide) ?_
  refine pf_In_15 0 rfl (v := .int 0) rfl rfl (Nat.le_of_ble_eq_true rfl) (ws' := [(a_t, .inr (2, [.int t_operation, .int 0, .int t_number, .int t_bytesFrom])), (a_rd, .inr (5, [.ref a_bb, .int q2.2.1, .int rd_limit, .int q2.2.2])), (a_bb, .inl (K 0, 512, .inl bb))]) rfl d_In_readFrom_13 ?_
  refine g_aload_n d_In_readFrom_16 rfl ?_
  refine g_iconst (v := 0) d_In_readFrom_17 (by decide) ?_
  refine pf_In_21 0 rfl (v := .int 0) rfl rfl (Nat.le_of_ble_eq_true rfl) (ws' := [(a_t, .inr (2, [.int t_operation, .int 0, .int 0, .int t_bytesFrom])), (a_rd, .inr (5, [.ref a_bb, .int q2.2.1, .int rd_limit, .int q2.2.2])), (a_bb, .inl (K 0, 512, .inl bb))]) rfl d_In_readFrom_18 ?_
  refine g_aload_n d_In_readFrom_21 rfl ?_
  refine g_iconst (v := 0) d_In_readFrom_22 (by decide) ?_
  refine pf_In_24 0 rfl (v := .int 0) rfl rfl (Nat.le_of_ble_eq_true rfl) (ws' := [(a_t, .inr (2, [.int t_operation, .int 0, .int 0, .int 0])), (a_rd, .inr (5, [.ref a_bb, .int q2.2.1, .int rd_limit, .int q2.2.2])), (a_bb, .inl (K 0, 512, .inl bb))]) rfl d_In_readFrom_23 ?_
  refine g_iload_n d_In_readFrom_26 rfl ?_
  refine g_bipush (v := 6) d_In_readFrom_27 (by decide) ?_
  refine g_ishr d_In_readFrom_29 ?_
  by_cases hc30_56 : (q2.1 >>> (6 &&& 31)) = 1
  · replace h := it_t hc30_56 h
    refine g_table (off := 26) (tgt := 56) d_In_readFrom_30 (by decide) (by rw [hc30_56]; decide +kernel) (by decide) ?_
    refine g_aload_n d_In_readFrom_56 rfl ?_
    refine g_iconst (v := 2) d_In_readFrom_57 (by decide) ?_
    refine pf_In_27 0 rfl (v := .int 2) rfl rfl (Nat.le_of_ble_eq_true rfl) (ws' := [(a_t, .inr (2, [.int 2, .int 0, .int 0, .int 0])), (a_rd, .inr (5, [.ref a_bb, .int q2.2.1, .int rd_limit, .int q2.2.2])), (a_bb, .inl (K 0, 512, .inl bb))]) rfl d_In_readFrom_58 ?_
    refine g_aload_n d_In_readFrom_61 rfl ?_
    refine g_iload_n d_In_readFrom_62 rfl ?_
    refine pf_In_21 0 rfl (v := .int (q2.1 &&& 63)) rfl rfl (Nat.le_of_ble_eq_true rfl) (ws' := [(a_t, .inr (2, [.int 2, .int 0, .int (q2.1 &&& 63), .int 0])), (a_rd, .inr (5, [.ref a_bb, .int q2.2.1, .int rd_limit, .int q2.2.2])), (a_bb, .inl (K 0, 512, .inl bb))]) rfl d_In_readFrom_63 ?_
    refine g_goto (tgt := 119) d_In_readFrom_66 (by decide) ?_
    refine g_lsub (L' := [(0, .ref a_t), (1, .ref a_rd), (2, .int q2.1), (3, .int (q2.1 &&& 63))]) [2, 3, 1, 0] rfl ?_
    exact j_In_readFrom_119 l D K a_t a_rd a_bb 2 0 (q2.1 &&& 63) 0 q2.2.1 rd_limit q2.2.2 bb q2.1 (q2.1 &&& 63) o h
  replace h := it_f hc30_56 h
  by_cases hc30_69 : (q2.1 >>> (6 &&& 31)) = 2
  · replace h := it_t hc30_69 h
    refine g_table (off := 39) (tgt := 69) d_In_readFrom_30 (by decide) (by rw [hc30_69]; decide +kernel) (by decide) ?_
    refine g_aload_n d_In_readFrom_69 rfl ?_
    refine g_iconst (v := 5) d_In_readFrom_70 (by decide) ?_
    refine pf_In_27 0 rfl (v := .int 5) rfl rfl (Nat.le_of_ble_eq_true rfl) (ws' := [(a_t, .inr (2, [.int 5, .int 0, .int 0, .int 0])), (a_rd, .inr (5, [.ref a_bb, .int q2.2.1, .int rd_limit, .int q2.2.2])), (a_bb, .inl (K 0, 512, .inl bb))]) rfl d_In_readFrom_71 ?_
    refine g_aload_n d_In_readFrom_74 rfl ?_
    refine g_iload_n d_In_readFrom_75 rfl ?_
    refine pf_In_15 0 rfl (v := .int (q2.1 &&& 63)) rfl rfl (Nat.le_of_ble_eq_true rfl) (ws' := [(a_t, .inr (2, [.int 5, .int (q2.1 &&& 63), .int 0, .int 0])), (a_rd, .inr (5, [.ref a_bb, .int q2.2.1, .int rd_limit, .int q2.2.2])), (a_bb, .inl (K 0, 512, .inl bb))]) rfl d_In_readFrom_76 ?_
    refine g_aload_n d_In_readFrom_79 rfl ?_
    refine g_aload_n d_In_readFrom_80 rfl ?_
    obtain ⟨q81, hq81, h⟩ := it_b h
    refine g_callV (ci := 5) (q := (xR_Rd, xF_Rd, 4)) (As := []) (rest := [.ref a_t]) (st2 := [.int q81.1, .ref a_t]) (ws2 := [(a_t, .inr (2, [.int 5, .int (q2.1 &&& 63), .int 0, .int 0])), (a_rd, .inr (5, [.ref a_bb, .int q81.2.1, .int rd_limit, .int q81.2.2])), (a_bb, .inl (K 0, 512, .inl bb))]) (c_Rd_uleb l D K a_rd a_bb q2.2.1 rd_limit q2.2.2 bb q81 hq81) (cs_In_30 rfl rfl ⟨Nat.le_of_ble_eq_true rfl, Nat.le_of_ble_eq_true rfl⟩) rfl 1 rfl (gOver.mk2 [1, 2] [none, some 0, some 1] (by decide) (by decide) rfl rfl rfl) (Nat.le_of_ble_eq_true rfl) ⟨Nat.le_of_ble_eq_true rfl, Nat.le_of_ble_eq_true rfl⟩ d_In_readFrom_81 rfl rfl ?_
    refine pf_In_21 0 rfl (v := .int q81.1) rfl rfl (Nat.le_of_ble_eq_true rfl) (ws' := [(a_t, .inr (2, [.int 5, .int (q2.1 &&& 63), .int q81.1, .int 0])), (a_rd, .inr (5, [.ref a_bb, .int q81.2.1, .int rd_limit, .int q81.2.2])), (a_bb, .inl (K 0, 512, .inl bb))]) rfl d_In_readFrom_84 ?_
    refine g_goto (tgt := 119) d_In_readFrom_87 (by decide) ?_
    refine g_lsub (L' := [(0, .ref a_t), (1, .ref a_rd), (2, .int q2.1), (3, .int (q2.1 &&& 63))]) [2, 3, 1, 0] rfl ?_
    exact j_In_readFrom_119 l D K a_t a_rd a_bb 5 (q2.1 &&& 63) q81.1 0 q81.2.1 rd_limit q81.2.2 bb q2.1 (q2.1 &&& 63) o h
  replace h := it_f hc30_69 h
  by_cases hc30_90 : (q2.1 >>> (6 &&& 31)) = 3
  · replace h := it_t hc30_90 h
    refine g_table (off := 60) (tgt := 90) d_In_readFrom_30 (by decide) (by rw [hc30_90]; decide +kernel) (by decide) ?_
    refine g_aload_n d_In_readFrom_90 rfl ?_
    refine g_bipush (v := 6) d_In_readFrom_91 (by decide) ?_
    refine pf_In_27 0 rfl (v := .int 6) rfl rfl (Nat.le_of_ble_eq_true rfl) (ws' := [(a_t, .inr (2, [.int 6, .int 0, .int 0, .int 0])), (a_rd, .inr (5, [.ref a_bb, .int q2.2.1, .int rd_limit, .int q2.2.2])), (a_bb, .inl (K 0, 512, .inl bb))]) rfl d_In_readFrom_93 ?_
    refine g_aload_n d_In_readFrom_96 rfl ?_
    refine g_iload_n d_In_readFrom_97 rfl ?_
    refine pf_In_15 0 rfl (v := .int (q2.1 &&& 63)) rfl rfl (Nat.le_of_ble_eq_true rfl) (ws' := [(a_t, .inr (2, [.int 6, .int (q2.1 &&& 63), .int 0, .int 0])), (a_rd, .inr (5, [.ref a_bb, .int q2.2.1, .int rd_limit, .int q2.2.2])), (a_bb, .inl (K 0, 512, .inl bb))]) rfl d_In_readFrom_98 ?_
    refine g_goto (tgt := 119) d_In_readFrom_101 (by decide) ?_
    refine g_lsub (L' := [(0, .ref a_t), (1, .ref a_rd), (2, .int q2.1), (3, .int (q2.1 &&& 63))]) [2, 3, 1, 0] rfl ?_
    exact j_In_readFrom_119 l D K a_t a_rd a_bb 6 (q2.1 &&& 63) 0 0 q2.2.1 rd_limit q2.2.2 bb q2.1 (q2.1 &&& 63) o h
  replace h := it_f hc30_90 h
  refine g_table (off := 74) (tgt := 104) d_In_readFrom_30 (by decide) (by simp only [gTabL]; rw [lv_osw hc30_56 (by decide), lv_osw hc30_69 (by decide), lv_osw hc30_90 (by decide)]; rfl) (by decide) ?_
  refine g_aload_n d_In_readFrom_104 rfl ?_
  refine g_iload_n d_In_readFrom_105 rfl ?_
  refine pf_In_27 0 rfl (v := .int (q2.1 &&& 63)) rfl rfl (Nat.le_of_ble_eq_true rfl) (ws' := [(a_t, .inr (2, [.int (q2.1 &&& 63), .int 0, .int 0, .int 0])), (a_rd, .inr (5, [.ref a_bb, .int q2.2.1, .int rd_limit, .int q2.2.2])), (a_bb, .inl (K 0, 512, .inl bb))]) rfl d_In_readFrom_106 ?_
  refine g_aload_n d_In_readFrom_109 rfl ?_
  refine g_aload_n d_In_readFrom_110 rfl ?_
  obtain ⟨q111, hq111, h⟩ := it_b h
  refine g_callV (ci := 2) (q := (xR_In, xF_In, 4)) (As := [.ref a_rd]) (rest := []) (st2 := [.int q111.1]) (ws2 := [(a_t, .inr (2, [.int (q2.1 &&& 63), .int q111.2.1, .int q111.2.2.1, .int q111.2.2.2.1])), (a_rd, .inr (5, [.ref a_bb, .int q111.2.2.2.2.1, .int rd_limit, .int q111.2.2.2.2.2])), (a_bb, .inl (K 0, 512, .inl bb))]) (c_In_readOperands l D K a_t a_rd a_bb (q2.1 &&& 63) 0 0 0 q2.2.1 rd_limit q2.2.2 bb q111 hq111) (cs_In_34 rfl rfl ⟨Nat.le_of_ble_eq_true rfl, Nat.le_of_ble_eq_true rfl⟩) rfl 0 rfl (gOver.mk2 [0, 1, 2] [some 0, some 1, some 2] (by decide) (by decide) rfl rfl rfl) (Nat.le_of_ble_eq_true rfl) ⟨Nat.le_of_ble_eq_true rfl, Nat.le_of_ble_eq_true rfl⟩ d_In_readFrom_111 rfl rfl ?_
  refine g_if_ne (tgt := 119) d_In_readFrom_114 (by decide) (fun hc => ?_) (fun hc => ?_)
  · replace h := it_f hc h
    refine g_lsub (L' := [(0, .ref a_t), (1, .ref a_rd), (2, .int q2.1), (3, .int (q2.1 &&& 63))]) [2, 3, 1, 0] rfl ?_
    exact j_In_readFrom_119 l D K a_t a_rd a_bb (q2.1 &&& 63) q111.2.1 q111.2.2.1 q111.2.2.2.1 q111.2.2.2.2.1 rd_limit q111.2.2.2.2.2 bb q2.1 (q2.1 &&& 63) o h
  · replace h := it_t hc h
    refine g_iconst (v := 0) d_In_readFrom_117 (by decide) ?_
    obtain rfl := Option.some.inj h
    exact g_zret (v := 0) rfl (by decide) d_In_readFrom_118
def f_In_mayStandInCommon (t_operation : Int32) : Option (Int32) := if t_operation = 1 ∨ t_operation = 2 ∨ t_operation = 3 ∨ t_operation = 4 ∨ t_operation = 6 ∨ t_operation = 10 ∨ t_operation = 11 then (some 0) else some 1
set_option maxRecDepth 100000 in
set_option maxHeartbeats 4000000 in
theorem c_In_mayStandInCommon (l : Launch) (D : va_G) (K : Nat → ClassId) (a_t : Nat) (t_operation : Int32) (t_register : Int32) (t_number : Int32) (t_bytesFrom : Int32) (o : Int32) (h : f_In_mayStandInCommon t_operation = some o) : Ct l y_In_mayStandInCommon b_In_mayStandInCommon 1 (some .boolean) { frames := 0, cells := 0, slots := 0, locals := 0 } D vwCl (xTy K) [.ref a_t] [(a_t, .inr (2, [.int t_operation, .int t_register, .int t_number, .int t_bytesFrom]))] (some (.int o)) [(a_t, .inr (2, [.int t_operation, .int t_register, .int t_number, .int t_bytesFrom]))] := by
  refine Ct.ofG (by decide) (Nat.le_of_ble_eq_true rfl) ?_
  refine g_L (L' := [(0, .ref a_t)]) rfl ?_
  unfold f_In_mayStandInCommon at h
  refine g_aload_n d_In_mayStandInCommon_0 rfl ?_
  refine gf_In_27 0 rfl (v := .int t_operation) rfl d_In_mayStandInCommon_1 ?_
  by_cases hc4_64 : t_operation = 1 ∨ t_operation = 2 ∨ t_operation = 3 ∨ t_operation = 4 ∨ t_operation = 6 ∨ t_operation = 10 ∨ t_operation = 11
  · replace h := it_t hc4_64 h
    refine g_table (off := 60) (tgt := 64) d_In_mayStandInCommon_4 (by decide) (by rcases hc4_64 with hc | hc | hc | hc | hc | hc | hc <;> (rw [hc]; decide +kernel)) (by decide) ?_
    refine g_iconst (v := 0) d_In_mayStandInCommon_64 (by decide) ?_
    obtain rfl := Option.some.inj h
    exact g_zret (v := 0) rfl (by decide) d_In_mayStandInCommon_65
  replace h := it_f hc4_64 h
  refine g_table (off := 62) (tgt := 66) d_In_mayStandInCommon_4 (by decide) (by simp only [gTabL]; rw [lv_osw (fun z => hc4_64 (Or.inl z)) (by decide)]; rw [lv_osw (fun z => hc4_64 (Or.inr (Or.inl z))) (by decide)]; rw [lv_osw (fun z => hc4_64 (Or.inr (Or.inr (Or.inl z)))) (by decide)]; rw [lv_osw (fun z => hc4_64 (Or.inr (Or.inr (Or.inr (Or.inl z))))) (by decide)]; refine gsw_d ?_; rw [lv_osw (fun z => hc4_64 (Or.inr (Or.inr (Or.inr (Or.inr (Or.inl z)))))) (by decide)]; refine gsw_d ?_; refine gsw_d ?_; refine gsw_d ?_; rw [lv_osw (fun z => hc4_64 (Or.inr (Or.inr (Or.inr (Or.inr (Or.inr (Or.inl z))))))) (by decide)]; rw [lv_osw (fun z => hc4_64 (Or.inr (Or.inr (Or.inr (Or.inr (Or.inr (Or.inr z))))))) (by decide)]; rfl) (by decide) ?_
  refine g_iconst (v := 1) d_In_mayStandInCommon_66 (by decide) ?_
  obtain rfl := Option.some.inj h
  exact g_zret (v := 1) rfl (by decide) d_In_mayStandInCommon_67
