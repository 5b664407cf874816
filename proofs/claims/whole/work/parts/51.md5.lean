def f_Md_rearrange_122 (t_at : Int32) (t_limit : Int32) (t_bad : Int32) (t_height : Int32) (m_bytes : Nat → Int32) (m_stack : Nat → Int32) (m_memory : Nat → Int32) (x1 : Int32) (x2 : Int32) (x3 : Int32) : Option (Int32 × Int32 × Int32 × Int32 × (Nat → Int32)) := ((f_Md_lacks t_height x3).bind fun q124 => if q124 = 0 then (if (t_height - 1) < 0 ∨ 16 ≤ (t_height - 1).toNatClampNeg then none else if x1 = 6 then (((f_Md_isAddress (m_stack (t_height - 1).toNatClampNeg)).bind fun q270 => if q270 = 0 then (some (4, t_at, t_bad, t_height, m_stack)) else (if (4 : Int32) = 0 then none else if ((m_stack (t_height - 1).toNatClampNeg) / 4) < 0 ∨ 256 ≤ ((m_stack (t_height - 1).toNatClampNeg) / 4).toNatClampNeg then none else if (t_height - 1) < 0 ∨ 16 ≤ (t_height - 1).toNatClampNeg then none else some (0, t_at, t_bad, t_height, upd m_stack (t_height - 1).toNatClampNeg (m_memory ((m_stack (t_height - 1).toNatClampNeg) / 4).toNatClampNeg))))) else if x1 = 18 then (((f_Md_push t_height m_stack (m_stack (t_height - 1).toNatClampNeg)).bind fun q303 => if q303.1 = 0 then (some (3, t_at, t_bad, q303.2.1, q303.2.2)) else (some (0, t_at, t_bad, q303.2.1, q303.2.2)))) else if x1 = 19 then (some (0, t_at, t_bad, t_height - 1, m_stack)) else if x1 = 20 then (if (t_height - 2) < 0 ∨ 16 ≤ (t_height - 2).toNatClampNeg then none else ((f_Md_push t_height m_stack (m_stack (t_height - 2).toNatClampNeg)).bind fun q339 => if q339.1 = 0 then (some (3, t_at, t_bad, q339.2.1, q339.2.2)) else (some (0, t_at, t_bad, q339.2.1, q339.2.2)))) else if x1 = 21 then (if ((t_height - 1) - x2) < 0 ∨ 16 ≤ ((t_height - 1) - x2).toNatClampNeg then none else ((f_Md_push t_height m_stack (m_stack ((t_height - 1) - x2).toNatClampNeg)).bind fun q365 => if q365.1 = 0 then (some (3, t_at, t_bad, q365.2.1, q365.2.2)) else (some (0, t_at, t_bad, q365.2.1, q365.2.2)))) else if x1 = 22 then (if (t_height - 2) < 0 ∨ 16 ≤ (t_height - 2).toNatClampNeg then none else if (t_height - 1) < 0 ∨ 16 ≤ (t_height - 1).toNatClampNeg then none else if (t_height - 2) < 0 ∨ 16 ≤ (t_height - 2).toNatClampNeg then none else some (0, t_at, t_bad, t_height, upd (upd m_stack (t_height - 1).toNatClampNeg (m_stack (t_height - 2).toNatClampNeg)) (t_height - 2).toNatClampNeg (m_stack (t_height - 1).toNatClampNeg))) else if x1 = 23 then (if (t_height - 2) < 0 ∨ 16 ≤ (t_height - 2).toNatClampNeg then none else if (t_height - 1) < 0 ∨ 16 ≤ (t_height - 1).toNatClampNeg then none else if (t_height - 3) < 0 ∨ 16 ≤ (t_height - 3).toNatClampNeg then none else if (t_height - 2) < 0 ∨ 16 ≤ (t_height - 2).toNatClampNeg then none else if (t_height - 3) < 0 ∨ 16 ≤ (t_height - 3).toNatClampNeg then none else some (0, t_at, t_bad, t_height, upd (upd (upd m_stack (t_height - 1).toNatClampNeg (m_stack (t_height - 2).toNatClampNeg)) (t_height - 2).toNatClampNeg ((upd m_stack (t_height - 1).toNatClampNeg (m_stack (t_height - 2).toNatClampNeg)) (t_height - 3).toNatClampNeg)) (t_height - 3).toNatClampNeg (m_stack (t_height - 1).toNatClampNeg))) else if x1 = 25 then (if 0 ≤ (m_stack (t_height - 1).toNatClampNeg) then (if (t_height - 1) < 0 ∨ 16 ≤ (t_height - 1).toNatClampNeg then none else some (0, t_at, t_bad, t_height, upd m_stack (t_height - 1).toNatClampNeg (m_stack (t_height - 1).toNatClampNeg))) else (if (t_height - 1) < 0 ∨ 16 ≤ (t_height - 1).toNatClampNeg then none else some (0, t_at, t_bad, t_height, upd m_stack (t_height - 1).toNatClampNeg (0 - (m_stack (t_height - 1).toNatClampNeg))))) else if x1 = 31 then (if (t_height - 1) < 0 ∨ 16 ≤ (t_height - 1).toNatClampNeg then none else some (0, t_at, t_bad, t_height, upd m_stack (t_height - 1).toNatClampNeg (0 - (m_stack (t_height - 1).toNatClampNeg)))) else if x1 = 32 then (if (t_height - 1) < 0 ∨ 16 ≤ (t_height - 1).toNatClampNeg then none else some (0, t_at, t_bad, t_height, upd m_stack (t_height - 1).toNatClampNeg ((m_stack (t_height - 1).toNatClampNeg) ^^^ (-1)))) else if (t_height - 1) < 0 ∨ 16 ≤ (t_height - 1).toNatClampNeg then none else some (0, t_at, t_bad, t_height, upd m_stack (t_height - 1).toNatClampNeg ((m_stack (t_height - 1).toNatClampNeg) + x2))) else (some (3, t_at, t_bad, t_height, m_stack)))
set_option maxRecDepth 100000 in
set_option maxHeartbeats 4000000 in
theorem j_Md_rearrange_122 (l : Launch) (D : va_G) (K : Nat → ClassId) (a_t a_m_bytes a_m_begins a_m_isCommon a_m_common a_m_code a_m_data a_m_back a_m_first a_m_range a_m_from a_m_to a_m_row a_m_commonRow a_m_kept a_m_stack a_m_memory a_m_registers a_m_next : Nat) {av : List Value} {w0 : va_W} (t_thrown : Int32) (t_size : Int32) (t_entries : Int32) (t_at : Int32) (t_limit : Int32) (t_bad : Int32) (t_keptRows : Int32) (t_place : Int32) (t_height : Int32) (t_reckoned : Int32) (t_value : Int32) (t_known : Int32) (t_pc : Int32) (t_unwound : Int32) (m_bytes : Nat → Int32) (m_stack : Nat → Int32) (m_memory : Nat → Int32) (x1 : Int32) (x2 : Int32) (x3 : Int32) (o : Int32 × Int32 × Int32 × Int32 × (Nat → Int32)) (h : f_Md_rearrange_122 t_at t_limit t_bad t_height m_bytes m_stack m_memory x1 x2 x3 = some o) : Gm l y_Md_rearrange b_Md_rearrange 5 (some .int) { frames := 2, cells := 0, slots := 0, locals := 42 } D vwCl (xTy K) av w0 (CtF D vwCl av w0 (some (.int o.1)) [(a_t, .inr (11, [.int t_thrown, .ref a_m_bytes, .int t_size, .int t_entries, .ref a_m_begins, .ref a_m_isCommon, .ref a_m_common, .ref a_m_code, .ref a_m_data, .ref a_m_back, .ref a_m_first, .ref a_m_range, .ref a_m_from, .ref a_m_to, .int o.2.1, .int t_limit, .int o.2.2.1, .ref a_m_row, .ref a_m_commonRow, .ref a_m_kept, .int t_keptRows, .int t_place, .ref a_m_stack, .int o.2.2.2.1, .int t_reckoned, .int t_value, .ref a_m_memory, .ref a_m_registers, .int t_known, .int t_pc, .int t_unwound, .ref a_m_next])), (a_m_bytes, .inl (K 1, 512, .inl m_bytes)), (a_m_stack, .inl (K 1, 16, .inl o.2.2.2.2)), (a_m_memory, .inl (K 1, 256, .inl m_memory))]) 0 0 [(a_t, .inr (11, [.int t_thrown, .ref a_m_bytes, .int t_size, .int t_entries, .ref a_m_begins, .ref a_m_isCommon, .ref a_m_common, .ref a_m_code, .ref a_m_data, .ref a_m_back, .ref a_m_first, .ref a_m_range, .ref a_m_from, .ref a_m_to, .int t_at, .int t_limit, .int t_bad, .ref a_m_row, .ref a_m_commonRow, .ref a_m_kept, .int t_keptRows, .int t_place, .ref a_m_stack, .int t_height, .int t_reckoned, .int t_value, .ref a_m_memory, .ref a_m_registers, .int t_known, .int t_pc, .int t_unwound, .ref a_m_next])), (a_m_bytes, .inl (K 1, 512, .inl m_bytes)), (a_m_stack, .inl (K 1, 16, .inl m_stack)), (a_m_memory, .inl (K 1, 256, .inl m_memory))] [(0, .ref a_t), (1, .int x1), (2, .int x2), (3, .int x3)] 122 [] := by
  unfold f_Md_rearrange_122 at h
  refine g_aload_n d_Md_rearrange_122 rfl ?_
  refine g_iload_n d_Md_rearrange_123 rfl ?_
  obtain ⟨q124, hq124, h⟩ := it_b h
  refine g_callV (ci := 11) (q := (xR_Md, xF_Md, 32)) (As := [.int x3]) (rest := []) (st2 := [.int q124]) (ws2 := [(a_t, .inr (11, [.int t_thrown, .ref a_m_bytes, .int t_size, .int t_entries, .ref a_m_begins, .ref a_m_isCommon, .ref a_m_common, .ref a_m_code, .ref a_m_data, .ref a_m_back, .ref a_m_first, .ref a_m_range, .ref a_m_from, .ref a_m_to, .int t_at, .int t_limit, .int t_bad, .ref a_m_row, .ref a_m_commonRow, .ref a_m_kept, .int t_keptRows, .int t_place, .ref a_m_stack, .int t_height, .int t_reckoned, .int t_value, .ref a_m_memory, .ref a_m_registers, .int t_known, .int t_pc, .int t_unwound, .ref a_m_next])), (a_m_bytes, .inl (K 1, 512, .inl m_bytes)), (a_m_stack, .inl (K 1, 16, .inl m_stack)), (a_m_memory, .inl (K 1, 256, .inl m_memory))]) (c_Md_lacks l D K a_t a_m_bytes a_m_begins a_m_isCommon a_m_common a_m_code a_m_data a_m_back a_m_first a_m_range a_m_from a_m_to a_m_row a_m_commonRow a_m_kept a_m_stack a_m_memory a_m_registers a_m_next t_thrown t_size t_entries t_at t_limit t_bad t_keptRows t_place t_height t_reckoned t_value t_known t_pc t_unwound x3 q124 hq124) (cs_Md_174 rfl rfl ⟨Nat.le_of_ble_eq_true rfl, Nat.le_of_ble_eq_true rfl⟩) rfl 0 rfl (gOver.rd [0] (by decide) rfl) (Nat.le_of_ble_eq_true rfl) ⟨Nat.le_of_ble_eq_true rfl, Nat.le_of_ble_eq_true rfl⟩ d_Md_rearrange_124 rfl rfl ?_
  refine g_if_eq (tgt := 132) d_Md_rearrange_127 (by decide) (fun hc => ?_) (fun hc => ?_)
  · replace h := it_t hc h
    refine g_aload_n d_Md_rearrange_132 rfl ?_
    refine gf_Md_53 0 rfl (v := .ref a_m_stack) rfl d_Md_rearrange_133 ?_
    refine g_aload_n d_Md_rearrange_136 rfl ?_
    refine gf_Md_164 0 rfl (v := .int t_height) rfl d_Md_rearrange_137 ?_
    refine g_iconst (v := 1) d_Md_rearrange_140 (by decide) ?_
    refine g_isub d_Md_rearrange_141 ?_
    obtain ⟨hi142, h⟩ := it_in h
    refine g_iald 2 1 d_Md_rearrange_142 rfl rfl hi142 ?_
    refine g_istore (L' := [(4, .int (m_stack (t_height - 1).toNatClampNeg)), (0, .ref a_t), (1, .int x1), (2, .int x2), (3, .int x3)]) d_Md_rearrange_143 (by decide) rfl ?_
    refine g_iload_n d_Md_rearrange_145 rfl ?_
    by_cases hc146_268 : x1 = 6
    · replace h := it_t hc146_268 h
      refine g_table (off := 122) (tgt := 268) d_Md_rearrange_146 (by decide) (by rw [hc146_268]; decide +kernel) (by decide) ?_
      refine g_iload d_Md_rearrange_268 rfl ?_
      obtain ⟨q270, hq270, h⟩ := it_b h
      refine g_callS (As := [.int (m_stack (t_height - 1).toNatClampNeg)]) (rest := []) (st2 := [.int q270]) (ws2 := [(a_t, .inr (11, [.int t_thrown, .ref a_m_bytes, .int t_size, .int t_entries, .ref a_m_begins, .ref a_m_isCommon, .ref a_m_common, .ref a_m_code, .ref a_m_data, .ref a_m_back, .ref a_m_first, .ref a_m_range, .ref a_m_from, .ref a_m_to, .int t_at, .int t_limit, .int t_bad, .ref a_m_row, .ref a_m_commonRow, .ref a_m_kept, .int t_keptRows, .int t_place, .ref a_m_stack, .int t_height, .int t_reckoned, .int t_value, .ref a_m_memory, .ref a_m_registers, .int t_known, .int t_pc, .int t_unwound, .ref a_m_next])), (a_m_bytes, .inl (K 1, 512, .inl m_bytes)), (a_m_stack, .inl (K 1, 16, .inl m_stack)), (a_m_memory, .inl (K 1, 256, .inl m_memory))]) (c_Md_isAddress l D K (m_stack (t_height - 1).toNatClampNeg) q270 hq270) (cs_Md_194 rfl rfl ⟨Nat.le_of_ble_eq_true rfl, Nat.le_of_ble_eq_true rfl⟩) (gOver.rd [] (by decide) rfl) (Nat.le_of_ble_eq_true rfl) ⟨Nat.le_of_ble_eq_true rfl, Nat.le_of_ble_eq_true rfl⟩ d_Md_rearrange_270 rfl rfl ?_
      refine g_if_ne (tgt := 278) d_Md_rearrange_273 (by decide) (fun hc => ?_) (fun hc => ?_)
      · replace h := it_f hc h
        refine g_aload_n d_Md_rearrange_278 rfl ?_
        refine gf_Md_53 0 rfl (v := .ref a_m_stack) rfl d_Md_rearrange_279 ?_
        refine g_aload_n d_Md_rearrange_282 rfl ?_
        refine gf_Md_164 0 rfl (v := .int t_height) rfl d_Md_rearrange_283 ?_
        refine g_iconst (v := 1) d_Md_rearrange_286 (by decide) ?_
        refine g_isub d_Md_rearrange_287 ?_
        refine g_aload_n d_Md_rearrange_288 rfl ?_
        refine gf_Md_56 0 rfl (v := .ref a_m_memory) rfl d_Md_rearrange_289 ?_
        refine g_iload d_Md_rearrange_292 rfl ?_
        refine g_iconst (v := 4) d_Md_rearrange_294 (by decide) ?_
        obtain ⟨hz295, h⟩ := it_n h
        refine g_idiv d_Md_rearrange_295 hz295 ?_
        obtain ⟨hi296, h⟩ := it_in h
        refine g_iald 3 1 d_Md_rearrange_296 rfl rfl hi296 ?_
        obtain ⟨hi297, h⟩ := it_in h
        refine g_iast 2 1 (ws' := [(a_t, .inr (11, [.int t_thrown, .ref a_m_bytes, .int t_size, .int t_entries, .ref a_m_begins, .ref a_m_isCommon, .ref a_m_common, .ref a_m_code, .ref a_m_data, .ref a_m_back, .ref a_m_first, .ref a_m_range, .ref a_m_from, .ref a_m_to, .int t_at, .int t_limit, .int t_bad, .ref a_m_row, .ref a_m_commonRow, .ref a_m_kept, .int t_keptRows, .int t_place, .ref a_m_stack, .int t_height, .int t_reckoned, .int t_value, .ref a_m_memory, .ref a_m_registers, .int t_known, .int t_pc, .int t_unwound, .ref a_m_next])), (a_m_bytes, .inl (K 1, 512, .inl m_bytes)), (a_m_stack, .inl (K 1, 16, .inl (upd m_stack (t_height - 1).toNatClampNeg (m_memory ((m_stack (t_height - 1).toNatClampNeg) / 4).toNatClampNeg)))), (a_m_memory, .inl (K 1, 256, .inl m_memory))]) d_Md_rearrange_297 rfl rfl hi297 rfl ?_
        refine g_iconst (v := 0) d_Md_rearrange_298 (by decide) ?_
        obtain rfl := Option.some.inj h
        exact g_iret rfl d_Md_rearrange_299
      · replace h := it_t hc h
        refine g_iconst (v := 4) d_Md_rearrange_276 (by decide) ?_
        obtain rfl := Option.some.inj h
        exact g_iret rfl d_Md_rearrange_277
    replace h := it_f hc146_268 h
    by_cases hc146_300 : x1 = 18
    · replace h := it_t hc146_300 h
      refine g_table (off := 154) (tgt := 300) d_Md_rearrange_146 (by decide) (by rw [hc146_300]; decide +kernel) (by decide) ?_
      refine g_aload_n d_Md_rearrange_300 rfl ?_
      refine g_iload d_Md_rearrange_301 rfl ?_
      obtain ⟨q303, hq303, h⟩ := it_b h
      refine g_callV (ci := 11) (q := (xR_Md, xF_Md, 32)) (As := [.int (m_stack (t_height - 1).toNatClampNeg)]) (rest := []) (st2 := [.int q303.1]) (ws2 := [(a_t, .inr (11, [.int t_thrown, .ref a_m_bytes, .int t_size, .int t_entries, .ref a_m_begins, .ref a_m_isCommon, .ref a_m_common, .ref a_m_code, .ref a_m_data, .ref a_m_back, .ref a_m_first, .ref a_m_range, .ref a_m_from, .ref a_m_to, .int t_at, .int t_limit, .int t_bad, .ref a_m_row, .ref a_m_commonRow, .ref a_m_kept, .int t_keptRows, .int t_place, .ref a_m_stack, .int q303.2.1, .int t_reckoned, .int t_value, .ref a_m_memory, .ref a_m_registers, .int t_known, .int t_pc, .int t_unwound, .ref a_m_next])), (a_m_bytes, .inl (K 1, 512, .inl m_bytes)), (a_m_stack, .inl (K 1, 16, .inl q303.2.2)), (a_m_memory, .inl (K 1, 256, .inl m_memory))]) (c_Md_push l D K a_t a_m_bytes a_m_begins a_m_isCommon a_m_common a_m_code a_m_data a_m_back a_m_first a_m_range a_m_from a_m_to a_m_row a_m_commonRow a_m_kept a_m_stack a_m_memory a_m_registers a_m_next t_thrown t_size t_entries t_at t_limit t_bad t_keptRows t_place t_height t_reckoned t_value t_known t_pc t_unwound m_stack (m_stack (t_height - 1).toNatClampNeg) q303 hq303) (cs_Md_167 rfl rfl ⟨Nat.le_of_ble_eq_true rfl, Nat.le_of_ble_eq_true rfl⟩) rfl 0 rfl (gOver.mk2 [0, 2] [some 0, none, some 1, none] (by decide) (by decide) rfl rfl rfl) (Nat.le_of_ble_eq_true rfl) ⟨Nat.le_of_ble_eq_true rfl, Nat.le_of_ble_eq_true rfl⟩ d_Md_rearrange_303 rfl rfl ?_
      refine g_if_eq (tgt := 313) d_Md_rearrange_306 (by decide) (fun hc => ?_) (fun hc => ?_)
      · replace h := it_t hc h
        refine g_iconst (v := 3) d_Md_rearrange_313 (by decide) ?_
        obtain rfl := Option.some.inj h
        exact g_iret rfl d_Md_rearrange_314
      · replace h := it_f hc h
        refine g_iconst (v := 0) d_Md_rearrange_309 (by decide) ?_
        refine g_goto (tgt := 314) d_Md_rearrange_310 (by decide) ?_
        obtain rfl := Option.some.inj h
        exact g_iret rfl d_Md_rearrange_314
    replace h := it_f hc146_300 h
    by_cases hc146_315 : x1 = 19
    · replace h := it_t hc146_315 h
      refine g_table (off := 169) (tgt := 315) d_Md_rearrange_146 (by decide) (by rw [hc146_315]; decide +kernel) (by decide) ?_
      refine g_aload_n d_Md_rearrange_315 rfl ?_
      refine g_dup d_Md_rearrange_316 rfl ?_
      refine gf_Md_164 0 rfl (v := .int t_height) rfl d_Md_rearrange_317 ?_
      refine g_iconst (v := 1) d_Md_rearrange_320 (by decide) ?_
      refine g_isub d_Md_rearrange_321 ?_
      refine pf_Md_164 0 rfl (v := .int (t_height - 1)) rfl rfl (Nat.le_of_ble_eq_true rfl) (ws' := [(a_t, .inr (11, [.int t_thrown, .ref a_m_bytes, .int t_size, .int t_entries, .ref a_m_begins, .ref a_m_isCommon, .ref a_m_common, .ref a_m_code, .ref a_m_data, .ref a_m_back, .ref a_m_first, .ref a_m_range, .ref a_m_from, .ref a_m_to, .int t_at, .int t_limit, .int t_bad, .ref a_m_row, .ref a_m_commonRow, .ref a_m_kept, .int t_keptRows, .int t_place, .ref a_m_stack, .int (t_height - 1), .int t_reckoned, .int t_value, .ref a_m_memory, .ref a_m_registers, .int t_known, .int t_pc, .int t_unwound, .ref a_m_next])), (a_m_bytes, .inl (K 1, 512, .inl m_bytes)), (a_m_stack, .inl (K 1, 16, .inl m_stack)), (a_m_memory, .inl (K 1, 256, .inl m_memory))]) rfl d_Md_rearrange_322 ?_
      refine g_iconst (v := 0) d_Md_rearrange_325 (by decide) ?_
      obtain rfl := Option.some.inj h
      exact g_iret rfl d_Md_rearrange_326
    replace h := it_f hc146_315 h
    by_cases hc146_327 : x1 = 20
    · replace h := it_t hc146_327 h
      refine g_table (off := 181) (tgt := 327) d_Md_rearrange_146 (by decide) (by rw [hc146_327]; decide +kernel) (by decide) ?_
      refine g_aload_n d_Md_rearrange_327 rfl ?_
      refine g_aload_n d_Md_rearrange_328 rfl ?_
      refine gf_Md_53 0 rfl (v := .ref a_m_stack) rfl d_Md_rearrange_329 ?_
      refine g_aload_n d_Md_rearrange_332 rfl ?_
      refine gf_Md_164 0 rfl (v := .int t_height) rfl d_Md_rearrange_333 ?_
      refine g_iconst (v := 2) d_Md_rearrange_336 (by decide) ?_
      refine g_isub d_Md_rearrange_337 ?_
      obtain ⟨hi338, h⟩ := it_in h
      refine g_iald 2 1 d_Md_rearrange_338 rfl rfl hi338 ?_
      obtain ⟨q339, hq339, h⟩ := it_b h
      refine g_callV (ci := 11) (q := (xR_Md, xF_Md, 32)) (As := [.int (m_stack (t_height - 2).toNatClampNeg)]) (rest := []) (st2 := [.int q339.1]) (ws2 := [(a_t, .inr (11, [.int t_thrown, .ref a_m_bytes, .int t_size, .int t_entries, .ref a_m_begins, .ref a_m_isCommon, .ref a_m_common, .ref a_m_code, .ref a_m_data, .ref a_m_back, .ref a_m_first, .ref a_m_range, .ref a_m_from, .ref a_m_to, .int t_at, .int t_limit, .int t_bad, .ref a_m_row, .ref a_m_commonRow, .ref a_m_kept, .int t_keptRows, .int t_place, .ref a_m_stack, .int q339.2.1, .int t_reckoned, .int t_value, .ref a_m_memory, .ref a_m_registers, .int t_known, .int t_pc, .int t_unwound, .ref a_m_next])), (a_m_bytes, .inl (K 1, 512, .inl m_bytes)), (a_m_stack, .inl (K 1, 16, .inl q339.2.2)), (a_m_memory, .inl (K 1, 256, .inl m_memory))]) (c_Md_push l D K a_t a_m_bytes a_m_begins a_m_isCommon a_m_common a_m_code a_m_data a_m_back a_m_first a_m_range a_m_from a_m_to a_m_row a_m_commonRow a_m_kept a_m_stack a_m_memory a_m_registers a_m_next t_thrown t_size t_entries t_at t_limit t_bad t_keptRows t_place t_height t_reckoned t_value t_known t_pc t_unwound m_stack (m_stack (t_height - 2).toNatClampNeg) q339 hq339) (cs_Md_167 rfl rfl ⟨Nat.le_of_ble_eq_true rfl, Nat.le_of_ble_eq_true rfl⟩) rfl 0 rfl (gOver.mk2 [0, 2] [some 0, none, some 1, none] (by decide) (by decide) rfl rfl rfl) (Nat.le_of_ble_eq_true rfl) ⟨Nat.le_of_ble_eq_true rfl, Nat.le_of_ble_eq_true rfl⟩ d_Md_rearrange_339 rfl rfl ?_
      refine g_if_eq (tgt := 349) d_Md_rearrange_342 (by decide) (fun hc => ?_) (fun hc => ?_)
      · replace h := it_t hc h
        refine g_iconst (v := 3) d_Md_rearrange_349 (by decide) ?_
        obtain rfl := Option.some.inj h
        exact g_iret rfl d_Md_rearrange_350
      · replace h := it_f hc h
        refine g_iconst (v := 0) d_Md_rearrange_345 (by decide) ?_
        refine g_goto (tgt := 350) d_Md_rearrange_346 (by decide) ?_
        obtain rfl := Option.some.inj h
        exact g_iret rfl d_Md_rearrange_350
    replace h := it_f hc146_327 h
    by_cases hc146_351 : x1 = 21
    · replace h := it_t hc146_351 h
      refine g_table (off := 205) (tgt := 351) d_Md_rearrange_146 (by decide) (by rw [hc146_351]; decide +kernel) (by decide) ?_
      refine g_aload_n d_Md_rearrange_351 rfl ?_
      refine g_aload_n d_Md_rearrange_352 rfl ?_
      refine gf_Md_53 0 rfl (v := .ref a_m_stack) rfl d_Md_rearrange_353 ?_
      refine g_aload_n d_Md_rearrange_356 rfl ?_
      refine gf_Md_164 0 rfl (v := .int t_height) rfl d_Md_rearrange_357 ?_
      refine g_iconst (v := 1) d_Md_rearrange_360 (by decide) ?_
      refine g_isub d_Md_rearrange_361 ?_
      refine g_iload_n d_Md_rearrange_362 rfl ?_
      refine g_isub d_Md_rearrange_363 ?_
      obtain ⟨hi364, h⟩ := it_in h
      refine g_iald 2 1 d_Md_rearrange_364 rfl rfl hi364 ?_
      obtain ⟨q365, hq365, h⟩ := it_b h
      refine g_callV (ci := 11) (q := (xR_Md, xF_Md, 32)) (As := [.int (m_stack ((t_height - 1) - x2).toNatClampNeg)]) (rest := []) (st2 := [.int q365.1]) (ws2 := [(a_t, .inr (11, [.int t_thrown, .ref a_m_bytes, .int t_size, .int t_entries, .ref a_m_begins, .ref a_m_isCommon, .ref a_m_common, .ref a_m_code, .ref a_m_data, .ref a_m_back, .ref a_m_first, .ref a_m_range, .ref a_m_from, .ref a_m_to, .int t_at, .int t_limit, .int t_bad, .ref a_m_row, .ref a_m_commonRow, .ref a_m_kept, .int t_keptRows, .int t_place, .ref a_m_stack, .int q365.2.1, .int t_reckoned, .int t_value, .ref a_m_memory, .ref a_m_registers, .int t_known, .int t_pc, .int t_unwound, .ref a_m_next])), (a_m_bytes, .inl (K 1, 512, .inl m_bytes)), (a_m_stack, .inl (K 1, 16, .inl q365.2.2)), (a_m_memory, .inl (K 1, 256, .inl m_memory))]) (c_Md_push l D K a_t a_m_bytes a_m_begins a_m_isCommon a_m_common a_m_code a_m_data a_m_back a_m_first a_m_range a_m_from a_m_to a_m_row a_m_commonRow a_m_kept a_m_stack a_m_memory a_m_registers a_m_next t_thrown t_size t_entries t_at t_limit t_bad t_keptRows t_place t_height t_reckoned t_value t_known t_pc t_unwound m_stack (m_stack ((t_height - 1) - x2).toNatClampNeg) q365 hq365) (cs_Md_167 rfl rfl ⟨Nat.le_of_ble_eq_true rfl, Nat.le_of_ble_eq_true rfl⟩) rfl 0 rfl (gOver.mk2 [0, 2] [some 0, none, some 1, none] (by decide) (by decide) rfl rfl rfl) (Nat.le_of_ble_eq_true rfl) ⟨Nat.le_of_ble_eq_true rfl, Nat.le_of_ble_eq_true rfl⟩ d_Md_rearrange_365 rfl rfl ?_
      refine g_if_eq (tgt := 375) d_Md_rearrange_368 (by decide) (fun hc => ?_) (fun hc => ?_)
      · replace h := it_t hc h
        refine g_iconst (v := 3) d_Md_rearrange_375 (by decide) ?_
        obtain rfl := Option.some.inj h
        exact g_iret rfl d_Md_rearrange_376
      · replace h := it_f hc h
        refine g_iconst (v := 0) d_Md_rearrange_371 (by decide) ?_
        refine g_goto (tgt := 376) d_Md_rearrange_372 (by decide) ?_
        obtain rfl := Option.some.inj h
        exact g_iret rfl d_Md_rearrange_376
    replace h := it_f hc146_351 h
    by_cases hc146_377 : x1 = 22
    · replace h := it_t hc146_377 h
      refine g_table (off := 231) (tgt := 377) d_Md_rearrange_146 (by decide) (by rw [hc146_377]; decide +kernel) (by decide) ?_
      refine g_aload_n d_Md_rearrange_377 rfl ?_
      refine gf_Md_53 0 rfl (v := .ref a_m_stack) rfl d_Md_rearrange_378 ?_
      refine g_aload_n d_Md_rearrange_381 rfl ?_
      refine gf_Md_164 0 rfl (v := .int t_height) rfl d_Md_rearrange_382 ?_
      refine g_iconst (v := 1) d_Md_rearrange_385 (by decide) ?_
      refine g_isub d_Md_rearrange_386 ?_
      refine g_aload_n d_Md_rearrange_387 rfl ?_
      refine gf_Md_53 0 rfl (v := .ref a_m_stack) rfl d_Md_rearrange_388 ?_
      refine g_aload_n d_Md_rearrange_391 rfl ?_
      refine gf_Md_164 0 rfl (v := .int t_height) rfl d_Md_rearrange_392 ?_
      refine g_iconst (v := 2) d_Md_rearrange_395 (by decide) ?_
      refine g_isub d_Md_rearrange_396 ?_
      obtain ⟨hi397, h⟩ := it_in h
      refine g_iald 2 1 d_Md_rearrange_397 rfl rfl hi397 ?_
      obtain ⟨hi398, h⟩ := it_in h
      refine g_iast 2 1 (ws' := [(a_t, .inr (11, [.int t_thrown, .ref a_m_bytes, .int t_size, .int t_entries, .ref a_m_begins, .ref a_m_isCommon, .ref a_m_common, .ref a_m_code, .ref a_m_data, .ref a_m_back, .ref a_m_first, .ref a_m_range, .ref a_m_from, .ref a_m_to, .int t_at, .int t_limit, .int t_bad, .ref a_m_row, .ref a_m_commonRow, .ref a_m_kept, .int t_keptRows, .int t_place, .ref a_m_stack, .int t_height, .int t_reckoned, .int t_value, .ref a_m_memory, .ref a_m_registers, .int t_known, .int t_pc, .int t_unwound, .ref a_m_next])), (a_m_bytes, .inl (K 1, 512, .inl m_bytes)), (a_m_stack, .inl (K 1, 16, .inl (upd m_stack (t_height - 1).toNatClampNeg (m_stack (t_height - 2).toNatClampNeg)))), (a_m_memory, .inl (K 1, 256, .inl m_memory))]) d_Md_rearrange_398 rfl rfl hi398 rfl ?_
      refine g_aload_n d_Md_rearrange_399 rfl ?_
      refine gf_Md_53 0 rfl (v := .ref a_m_stack) rfl d_Md_rearrange_400 ?_
      refine g_aload_n d_Md_rearrange_403 rfl ?_
      refine gf_Md_164 0 rfl (v := .int t_height) rfl d_Md_rearrange_404 ?_
      refine g_iconst (v := 2) d_Md_rearrange_407 (by decide) ?_
      refine g_isub d_Md_rearrange_408 ?_
      refine g_iload d_Md_rearrange_409 rfl ?_
      obtain ⟨hi411, h⟩ := it_in h
      refine g_iast 2 1 (ws' := [(a_t, .inr (11, [.int t_thrown, .ref a_m_bytes, .int t_size, .int t_entries, .ref a_m_begins, .ref a_m_isCommon, .ref a_m_common, .ref a_m_code, .ref a_m_data, .ref a_m_back, .ref a_m_first, .ref a_m_range, .ref a_m_from, .ref a_m_to, .int t_at, .int t_limit, .int t_bad, .ref a_m_row, .ref a_m_commonRow, .ref a_m_kept, .int t_keptRows, .int t_place, .ref a_m_stack, .int t_height, .int t_reckoned, .int t_value, .ref a_m_memory, .ref a_m_registers, .int t_known, .int t_pc, .int t_unwound, .ref a_m_next])), (a_m_bytes, .inl (K 1, 512, .inl m_bytes)), (a_m_stack, .inl (K 1, 16, .inl (upd (upd m_stack (t_height - 1).toNatClampNeg (m_stack (t_height - 2).toNatClampNeg)) (t_height - 2).toNatClampNeg (m_stack (t_height - 1).toNatClampNeg)))), (a_m_memory, .inl (K 1, 256, .inl m_memory))]) d_Md_rearrange_411 rfl rfl hi411 rfl ?_
      refine g_iconst (v := 0) d_Md_rearrange_412 (by decide) ?_
      obtain rfl := Option.some.inj h
      exact g_iret rfl d_Md_rearrange_413
    replace h := it_f hc146_377 h
    by_cases hc146_414 : x1 = 23
    · replace h := it_t hc146_414 h
      refine g_table (off := 268) (tgt := 414) d_Md_rearrange_146 (by decide) (by rw [hc146_414]; decide +kernel) (by decide) ?_
      refine g_aload_n d_Md_rearrange_414 rfl ?_
      refine gf_Md_53 0 rfl (v := .ref a_m_stack) rfl d_Md_rearrange_415 ?_
      refine g_aload_n d_Md_rearrange_418 rfl ?_
      refine gf_Md_164 0 rfl (v := .int t_height) rfl d_Md_rearrange_419 ?_
      refine g_iconst (v := 1) d_Md_rearrange_422 (by decide) ?_
      refine g_isub d_Md_rearrange_423 ?_
      refine g_aload_n d_Md_rearrange_424 rfl ?_
      refine gf_Md_53 0 rfl (v := .ref a_m_stack) rfl d_Md_rearrange_425 ?_
      refine g_aload_n d_Md_rearrange_428 rfl ?_
      refine gf_Md_164 0 rfl (v := .int t_height) rfl d_Md_rearrange_429 ?_
      refine g_iconst (v := 2) d_Md_rearrange_432 (by decide) ?_
      refine g_isub d_Md_rearrange_433 ?_
      obtain ⟨hi434, h⟩ := it_in h
      refine g_iald 2 1 d_Md_rearrange_434 rfl rfl hi434 ?_
      obtain ⟨hi435, h⟩ := it_in h
      refine g_iast 2 1 (ws' := [(a_t, .inr (11, [.int t_thrown, .ref a_m_bytes, .int t_size, .int t_entries, .ref a_m_begins, .ref a_m_isCommon, .ref a_m_common, .ref a_m_code, .ref a_m_data, .ref a_m_back, .ref a_m_first, .ref a_m_range, .ref a_m_from, .ref a_m_to, .int t_at, .int t_limit, .int t_bad, .ref a_m_row, .ref a_m_commonRow, .ref a_m_kept, .int t_keptRows, .int t_place, .ref a_m_stack, .int t_height, .int t_reckoned, .int t_value, .ref a_m_memory, .ref a_m_registers, .int t_known, .int t_pc, .int t_unwound, .ref a_m_next])), (a_m_bytes, .inl (K 1, 512, .inl m_bytes)), (a_m_stack, .inl (K 1, 16, .inl (upd m_stack (t_height - 1).toNatClampNeg (m_stack (t_height - 2).toNatClampNeg)))), (a_m_memory, .inl (K 1, 256, .inl m_memory))]) d_Md_rearrange_435 rfl rfl hi435 rfl ?_
      refine g_aload_n d_Md_rearrange_436 rfl ?_
      refine gf_Md_53 0 rfl (v := .ref a_m_stack) rfl d_Md_rearrange_437 ?_
      refine g_aload_n d_Md_rearrange_440 rfl ?_
      refine gf_Md_164 0 rfl (v := .int t_height) rfl d_Md_rearrange_441 ?_
      refine g_iconst (v := 2) d_Md_rearrange_444 (by decide) ?_
      refine g_isub d_Md_rearrange_445 ?_
      refine g_aload_n d_Md_rearrange_446 rfl ?_
      refine gf_Md_53 0 rfl (v := .ref a_m_stack) rfl d_Md_rearrange_447 ?_
      refine g_aload_n d_Md_rearrange_450 rfl ?_
      refine gf_Md_164 0 rfl (v := .int t_height) rfl d_Md_rearrange_451 ?_
      refine g_iconst (v := 3) d_Md_rearrange_454 (by decide) ?_
      refine g_isub d_Md_rearrange_455 ?_
      obtain ⟨hi456, h⟩ := it_in h
      refine g_iald 2 1 d_Md_rearrange_456 rfl rfl hi456 ?_
      obtain ⟨hi457, h⟩ := it_in h
      refine g_iast 2 1 (ws' := [(a_t, .inr (11, [.int t_thrown, .ref a_m_bytes, .int t_size, .int t_entries, .ref a_m_begins, .ref a_m_isCommon, .ref a_m_common, .ref a_m_code, .ref a_m_data, .ref a_m_back, .ref a_m_first, .ref a_m_range, .ref a_m_from, .ref a_m_to, .int t_at, .int t_limit, .int t_bad, .ref a_m_row, .ref a_m_commonRow, .ref a_m_kept, .int t_keptRows, .int t_place, .ref a_m_stack, .int t_height, .int t_reckoned, .int t_value, .ref a_m_memory, .ref a_m_registers, .int t_known, .int t_pc, .int t_unwound, .ref a_m_next])), (a_m_bytes, .inl (K 1, 512, .inl m_bytes)), (a_m_stack, .inl (K 1, 16, .inl (upd (upd m_stack (t_height - 1).toNatClampNeg (m_stack (t_height - 2).toNatClampNeg)) (t_height - 2).toNatClampNeg ((upd m_stack (t_height - 1).toNatClampNeg (m_stack (t_height - 2).toNatClampNeg)) (t_height - 3).toNatClampNeg)))), (a_m_memory, .inl (K 1, 256, .inl m_memory))]) d_Md_rearrange_457 rfl rfl hi457 rfl ?_
      refine g_aload_n d_Md_rearrange_458 rfl ?_
      refine gf_Md_53 0 rfl (v := .ref a_m_stack) rfl d_Md_rearrange_459 ?_
      refine g_aload_n d_Md_rearrange_462 rfl ?_
      refine gf_Md_164 0 rfl (v := .int t_height) rfl d_Md_rearrange_463 ?_
      refine g_iconst (v := 3) d_Md_rearrange_466 (by decide) ?_
      refine g_isub d_Md_rearrange_467 ?_
      refine g_iload d_Md_rearrange_468 rfl ?_
      obtain ⟨hi470, h⟩ := it_in h
      refine g_iast 2 1 (ws' := [(a_t, .inr (11, [.int t_thrown, .ref a_m_bytes, .int t_size, .int t_entries, .ref a_m_begins, .ref a_m_isCommon, .ref a_m_common, .ref a_m_code, .ref a_m_data, .ref a_m_back, .ref a_m_first, .ref a_m_range, .ref a_m_from, .ref a_m_to, .int t_at, .int t_limit, .int t_bad, .ref a_m_row, .ref a_m_commonRow, .ref a_m_kept, .int t_keptRows, .int t_place, .ref a_m_stack, .int t_height, .int t_reckoned, .int t_value, .ref a_m_memory, .ref a_m_registers, .int t_known, .int t_pc, .int t_unwound, .ref a_m_next])), (a_m_bytes, .inl (K 1, 512, .inl m_bytes)), (a_m_stack, .inl (K 1, 16, .inl (upd (upd (upd m_stack (t_height - 1).toNatClampNeg (m_stack (t_height - 2).toNatClampNeg)) (t_height - 2).toNatClampNeg ((upd m_stack (t_height - 1).toNatClampNeg (m_stack (t_height - 2).toNatClampNeg)) (t_height - 3).toNatClampNeg)) (t_height - 3).toNatClampNeg (m_stack (t_height - 1).toNatClampNeg)))), (a_m_memory, .inl (K 1, 256, .inl m_memory))]) d_Md_rearrange_470 rfl rfl hi470 rfl ?_
      refine g_iconst (v := 0) d_Md_rearrange_471 (by decide) ?_
      obtain rfl := Option.some.inj h
      exact g_iret rfl d_Md_rearrange_472
    replace h := it_f hc146_414 h
    by_cases hc146_473 : x1 = 25
    · replace h := it_t hc146_473 h
      refine g_table (off := 327) (tgt := 473) d_Md_rearrange_146 (by decide) (by rw [hc146_473]; decide +kernel) (by decide) ?_
      refine g_aload_n d_Md_rearrange_473 rfl ?_
      refine gf_Md_53 0 rfl (v := .ref a_m_stack) rfl d_Md_rearrange_474 ?_
      refine g_aload_n d_Md_rearrange_477 rfl ?_
      refine gf_Md_164 0 rfl (v := .int t_height) rfl d_Md_rearrange_478 ?_
      refine g_iconst (v := 1) d_Md_rearrange_481 (by decide) ?_
      refine g_isub d_Md_rearrange_482 ?_
      refine g_iload d_Md_rearrange_483 rfl ?_
      refine g_if_ge (tgt := 495) d_Md_rearrange_485 (by decide) (fun hc => ?_) (fun hc => ?_)
      · replace h := it_t hc h
        refine g_iload d_Md_rearrange_495 rfl ?_
        obtain ⟨hi497, h⟩ := it_in h
        refine g_iast 2 1 (ws' := [(a_t, .inr (11, [.int t_thrown, .ref a_m_bytes, .int t_size, .int t_entries, .ref a_m_begins, .ref a_m_isCommon, .ref a_m_common, .ref a_m_code, .ref a_m_data, .ref a_m_back, .ref a_m_first, .ref a_m_range, .ref a_m_from, .ref a_m_to, .int t_at, .int t_limit, .int t_bad, .ref a_m_row, .ref a_m_commonRow, .ref a_m_kept, .int t_keptRows, .int t_place, .ref a_m_stack, .int t_height, .int t_reckoned, .int t_value, .ref a_m_memory, .ref a_m_registers, .int t_known, .int t_pc, .int t_unwound, .ref a_m_next])), (a_m_bytes, .inl (K 1, 512, .inl m_bytes)), (a_m_stack, .inl (K 1, 16, .inl (upd m_stack (t_height - 1).toNatClampNeg (m_stack (t_height - 1).toNatClampNeg)))), (a_m_memory, .inl (K 1, 256, .inl m_memory))]) d_Md_rearrange_497 rfl rfl hi497 rfl ?_
        refine g_iconst (v := 0) d_Md_rearrange_498 (by decide) ?_
        obtain rfl := Option.some.inj h
        exact g_iret rfl d_Md_rearrange_499
      · replace h := it_f hc h
        refine g_iconst (v := 0) d_Md_rearrange_488 (by decide) ?_
        refine g_iload d_Md_rearrange_489 rfl ?_
        refine g_isub d_Md_rearrange_491 ?_
        refine g_goto (tgt := 497) d_Md_rearrange_492 (by decide) ?_
        obtain ⟨hi497, h⟩ := it_in h
        refine g_iast 2 1 (ws' := [(a_t, .inr (11, [.int t_thrown, .ref a_m_bytes, .int t_size, .int t_entries, .ref a_m_begins, .ref a_m_isCommon, .ref a_m_common, .ref a_m_code, .ref a_m_data, .ref a_m_back, .ref a_m_first, .ref a_m_range, .ref a_m_from, .ref a_m_to, .int t_at, .int t_limit, .int t_bad, .ref a_m_row, .ref a_m_commonRow, .ref a_m_kept, .int t_keptRows, .int t_place, .ref a_m_stack, .int t_height, .int t_reckoned, .int t_value, .ref a_m_memory, .ref a_m_registers, .int t_known, .int t_pc, .int t_unwound, .ref a_m_next])), (a_m_bytes, .inl (K 1, 512, .inl m_bytes)), (a_m_stack, .inl (K 1, 16, .inl (upd m_stack (t_height - 1).toNatClampNeg (0 - (m_stack (t_height - 1).toNatClampNeg))))), (a_m_memory, .inl (K 1, 256, .inl m_memory))]) d_Md_rearrange_497 rfl rfl hi497 rfl ?_
        refine g_iconst (v := 0) d_Md_rearrange_498 (by decide) ?_
        obtain rfl := Option.some.inj h
        exact g_iret rfl d_Md_rearrange_499
    replace h := it_f hc146_473 h
    by_cases hc146_500 : x1 = 31
    · replace h := it_t hc146_500 h
      refine g_table (off := 354) (tgt := 500) d_Md_rearrange_146 (by decide) (by rw [hc146_500]; decide +kernel) (by decide) ?_
      refine g_aload_n d_Md_rearrange_500 rfl ?_
      refine gf_Md_53 0 rfl (v := .ref a_m_stack) rfl d_Md_rearrange_501 ?_
      refine g_aload_n d_Md_rearrange_504 rfl ?_
      refine gf_Md_164 0 rfl (v := .int t_height) rfl d_Md_rearrange_505 ?_
      refine g_iconst (v := 1) d_Md_rearrange_508 (by decide) ?_
      refine g_isub d_Md_rearrange_509 ?_
      refine g_iconst (v := 0) d_Md_rearrange_510 (by decide) ?_
      refine g_iload d_Md_rearrange_511 rfl ?_
      refine g_isub d_Md_rearrange_513 ?_
      obtain ⟨hi514, h⟩ := it_in h
      refine g_iast 2 1 (ws' := [(a_t, .inr (11, [.int t_thrown, .ref a_m_bytes, .int t_size, .int t_entries, .ref a_m_begins, .ref a_m_isCommon, .ref a_m_common, .ref a_m_code, .ref a_m_data, .ref a_m_back, .ref a_m_first, .ref a_m_range, .ref a_m_from, .ref a_m_to, .int t_at, .int t_limit, .int t_bad, .ref a_m_row, .ref a_m_commonRow, .ref a_m_kept, .int t_keptRows, .int t_place, .ref a_m_stack, .int t_height, .int t_reckoned, .int t_value, .ref a_m_memory, .ref a_m_registers, .int t_known, .int t_pc, .int t_unwound, .ref a_m_next])), (a_m_bytes, .inl (K 1, 512, .inl m_bytes)), (a_m_stack, .inl (K 1, 16, .inl (upd m_stack (t_height - 1).toNatClampNeg (0 - (m_stack (t_height - 1).toNatClampNeg))))), (a_m_memory, .inl (K 1, 256, .inl m_memory))]) d_Md_rearrange_514 rfl rfl hi514 rfl ?_
      refine g_iconst (v := 0) d_Md_rearrange_515 (by decide) ?_
      obtain rfl := Option.some.inj h
      exact g_iret rfl d_Md_rearrange_516
    replace h := it_f hc146_500 h
    by_cases hc146_517 : x1 = 32
    · replace h := it_t hc146_517 h
      refine g_table (off := 371) (tgt := 517) d_Md_rearrange_146 (by decide) (by rw [hc146_517]; decide +kernel) (by decide) ?_
      refine g_aload_n d_Md_rearrange_517 rfl ?_
      refine gf_Md_53 0 rfl (v := .ref a_m_stack) rfl d_Md_rearrange_518 ?_
      refine g_aload_n d_Md_rearrange_521 rfl ?_
      refine gf_Md_164 0 rfl (v := .int t_height) rfl d_Md_rearrange_522 ?_
      refine g_iconst (v := 1) d_Md_rearrange_525 (by decide) ?_
      refine g_isub d_Md_rearrange_526 ?_
      refine g_iload d_Md_rearrange_527 rfl ?_
      refine g_iconst (v := (-1)) d_Md_rearrange_529 (by decide) ?_
      refine g_ixor d_Md_rearrange_530 ?_
      obtain ⟨hi531, h⟩ := it_in h
      refine g_iast 2 1 (ws' := [(a_t, .inr (11, [.int t_thrown, .ref a_m_bytes, .int t_size, .int t_entries, .ref a_m_begins, .ref a_m_isCommon, .ref a_m_common, .ref a_m_code, .ref a_m_data, .ref a_m_back, .ref a_m_first, .ref a_m_range, .ref a_m_from, .ref a_m_to, .int t_at, .int t_limit, .int t_bad, .ref a_m_row, .ref a_m_commonRow, .ref a_m_kept, .int t_keptRows, .int t_place, .ref a_m_stack, .int t_height, .int t_reckoned, .int t_value, .ref a_m_memory, .ref a_m_registers, .int t_known, .int t_pc, .int t_unwound, .ref a_m_next])), (a_m_bytes, .inl (K 1, 512, .inl m_bytes)), (a_m_stack, .inl (K 1, 16, .inl (upd m_stack (t_height - 1).toNatClampNeg ((m_stack (t_height - 1).toNatClampNeg) ^^^ (-1))))), (a_m_memory, .inl (K 1, 256, .inl m_memory))]) d_Md_rearrange_531 rfl rfl hi531 rfl ?_
      refine g_iconst (v := 0) d_Md_rearrange_532 (by decide) ?_
      obtain rfl := Option.some.inj h
      exact g_iret rfl d_Md_rearrange_533
    replace h := it_f hc146_517 h
    refine g_table (off := 388) (tgt := 534) d_Md_rearrange_146 (by decide) (by simp only [gTabL]; rw [lv_osw hc146_268 (by decide)]; refine gsw_d ?_; refine gsw_d ?_; refine gsw_d ?_; refine gsw_d ?_; refine gsw_d ?_; refine gsw_d ?_; refine gsw_d ?_; refine gsw_d ?_; refine gsw_d ?_; refine gsw_d ?_; refine gsw_d ?_; rw [lv_osw hc146_300 (by decide)]; rw [lv_osw hc146_315 (by decide)]; rw [lv_osw hc146_327 (by decide)]; rw [lv_osw hc146_351 (by decide)]; rw [lv_osw hc146_377 (by decide)]; rw [lv_osw hc146_414 (by decide)]; refine gsw_d ?_; rw [lv_osw hc146_473 (by decide)]; refine gsw_d ?_; refine gsw_d ?_; refine gsw_d ?_; refine gsw_d ?_; refine gsw_d ?_; rw [lv_osw hc146_500 (by decide)]; rw [lv_osw hc146_517 (by decide)]; rfl) (by decide) ?_
    refine g_aload_n d_Md_rearrange_534 rfl ?_
    refine gf_Md_53 0 rfl (v := .ref a_m_stack) rfl d_Md_rearrange_535 ?_
    refine g_aload_n d_Md_rearrange_538 rfl ?_
    refine gf_Md_164 0 rfl (v := .int t_height) rfl d_Md_rearrange_539 ?_
    refine g_iconst (v := 1) d_Md_rearrange_542 (by decide) ?_
    refine g_isub d_Md_rearrange_543 ?_
    refine g_iload d_Md_rearrange_544 rfl ?_
    refine g_iload_n d_Md_rearrange_546 rfl ?_
    refine g_iadd d_Md_rearrange_547 ?_
    obtain ⟨hi548, h⟩ := it_in h
    refine g_iast 2 1 (ws' := [(a_t, .inr (11, [.int t_thrown, .ref a_m_bytes, .int t_size, .int t_entries, .ref a_m_begins, .ref a_m_isCommon, .ref a_m_common, .ref a_m_code, .ref a_m_data, .ref a_m_back, .ref a_m_first, .ref a_m_range, .ref a_m_from, .ref a_m_to, .int t_at, .int t_limit, .int t_bad, .ref a_m_row, .ref a_m_commonRow, .ref a_m_kept, .int t_keptRows, .int t_place, .ref a_m_stack, .int t_height, .int t_reckoned, .int t_value, .ref a_m_memory, .ref a_m_registers, .int t_known, .int t_pc, .int t_unwound, .ref a_m_next])), (a_m_bytes, .inl (K 1, 512, .inl m_bytes)), (a_m_stack, .inl (K 1, 16, .inl (upd m_stack (t_height - 1).toNatClampNeg ((m_stack (t_height - 1).toNatClampNeg) + x2)))), (a_m_memory, .inl (K 1, 256, .inl m_memory))]) d_Md_rearrange_548 rfl rfl hi548 rfl ?_
    refine g_iconst (v := 0) d_Md_rearrange_549 (by decide) ?_
    obtain rfl := Option.some.inj h
    exact g_iret rfl d_Md_rearrange_550
  · replace h := it_f hc h
    refine g_iconst (v := 3) d_Md_rearrange_130 (by decide) ?_
    obtain rfl := Option.some.inj h
    exact g_iret rfl d_Md_rearrange_131
def f_Md_rearrange_78 (t_at : Int32) (t_limit : Int32) (t_bad : Int32) (t_height : Int32) (m_bytes : Nat → Int32) (m_stack : Nat → Int32) (m_memory : Nat → Int32) (x1 : Int32) (x2 : Int32) (s0 : Int32) : Option (Int32 × Int32 × Int32 × Int32 × (Nat → Int32)) := ((f_Md_within x1 18 23).bind fun q84 => if q84 = 0 then (if x1 = 6 then (f_Md_rearrange_122 t_at t_limit t_bad t_height m_bytes m_stack m_memory x1 x2 s0) else (if x1 = 25 then (f_Md_rearrange_122 t_at t_limit t_bad t_height m_bytes m_stack m_memory x1 x2 s0) else (if x1 = 31 then (f_Md_rearrange_122 t_at t_limit t_bad t_height m_bytes m_stack m_memory x1 x2 s0) else (if x1 = 32 then (f_Md_rearrange_122 t_at t_limit t_bad t_height m_bytes m_stack m_memory x1 x2 s0) else (if x1 = 35 then (f_Md_rearrange_122 t_at t_limit t_bad t_height m_bytes m_stack m_memory x1 x2 s0) else (some (2, t_at, t_bad, t_height, m_stack))))))) else (f_Md_rearrange_122 t_at t_limit t_bad t_height m_bytes m_stack m_memory x1 x2 s0))
set_option maxRecDepth 100000 in
set_option maxHeartbeats 4000000 in
theorem j_Md_rearrange_78 (l : Launch) (D : va_G) (K : Nat → ClassId) (a_t a_m_bytes a_m_begins a_m_isCommon a_m_common a_m_code a_m_data a_m_back a_m_first a_m_range a_m_from a_m_to a_m_row a_m_commonRow a_m_kept a_m_stack a_m_memory a_m_registers a_m_next : Nat) {av : List Value} {w0 : va_W} (t_thrown : Int32) (t_size : Int32) (t_entries : Int32) (t_at : Int32) (t_limit : Int32) (t_bad : Int32) (t_keptRows : Int32) (t_place : Int32) (t_height : Int32) (t_reckoned : Int32) (t_value : Int32) (t_known : Int32) (t_pc : Int32) (t_unwound : Int32) (m_bytes : Nat → Int32) (m_stack : Nat → Int32) (m_memory : Nat → Int32) (x1 : Int32) (x2 : Int32) (s0 : Int32) (o : Int32 × Int32 × Int32 × Int32 × (Nat → Int32)) (h : f_Md_rearrange_78 t_at t_limit t_bad t_height m_bytes m_stack m_memory x1 x2 s0 = some o) : Gm l y_Md_rearrange b_Md_rearrange 5 (some .int) { frames := 2, cells := 0, slots := 0, locals := 42 } D vwCl (xTy K) av w0 (CtF D vwCl av w0 (some (.int o.1)) [(a_t, .inr (11, [.int t_thrown, .ref a_m_bytes, .int t_size, .int t_entries, .ref a_m_begins, .ref a_m_isCommon, .ref a_m_common, .ref a_m_code, .ref a_m_data, .ref a_m_back, .ref a_m_first, .ref a_m_range, .ref a_m_from, .ref a_m_to, .int o.2.1, .int t_limit, .int o.2.2.1, .ref a_m_row, .ref a_m_commonRow, .ref a_m_kept, .int t_keptRows, .int t_place, .ref a_m_stack, .int o.2.2.2.1, .int t_reckoned, .int t_value, .ref a_m_memory, .ref a_m_registers, .int t_known, .int t_pc, .int t_unwound, .ref a_m_next])), (a_m_bytes, .inl (K 1, 512, .inl m_bytes)), (a_m_stack, .inl (K 1, 16, .inl o.2.2.2.2)), (a_m_memory, .inl (K 1, 256, .inl m_memory))]) 0 0 [(a_t, .inr (11, [.int t_thrown, .ref a_m_bytes, .int t_size, .int t_entries, .ref a_m_begins, .ref a_m_isCommon, .ref a_m_common, .ref a_m_code, .ref a_m_data, .ref a_m_back, .ref a_m_first, .ref a_m_range, .ref a_m_from, .ref a_m_to, .int t_at, .int t_limit, .int t_bad, .ref a_m_row, .ref a_m_commonRow, .ref a_m_kept, .int t_keptRows, .int t_place, .ref a_m_stack, .int t_height, .int t_reckoned, .int t_value, .ref a_m_memory, .ref a_m_registers, .int t_known, .int t_pc, .int t_unwound, .ref a_m_next])), (a_m_bytes, .inl (K 1, 512, .inl m_bytes)), (a_m_stack, .inl (K 1, 16, .inl m_stack)), (a_m_memory, .inl (K 1, 256, .inl m_memory))] [(0, .ref a_t), (1, .int x1), (2, .int x2)] 78 [.int s0] := by
  unfold f_Md_rearrange_78 at h
  refine g_istore_n (L' := [(3, .int s0), (0, .ref a_t), (1, .int x1), (2, .int x2)]) d_Md_rearrange_78 (by decide) rfl ?_
  refine g_iload_n d_Md_rearrange_79 rfl ?_
  refine g_bipush (v := 18) d_Md_rearrange_80 (by decide) ?_
  refine g_bipush (v := 23) d_Md_rearrange_82 (by decide) ?_
  obtain ⟨q84, hq84, h⟩ := it_b h
  refine g_callS (As := [.int x1, .int 18, .int 23]) (rest := []) (st2 := [.int q84]) (ws2 := [(a_t, .inr (11, [.int t_thrown, .ref a_m_bytes, .int t_size, .int t_entries, .ref a_m_begins, .ref a_m_isCommon, .ref a_m_common, .ref a_m_code, .ref a_m_data, .ref a_m_back, .ref a_m_first, .ref a_m_range, .ref a_m_from, .ref a_m_to, .int t_at, .int t_limit, .int t_bad, .ref a_m_row, .ref a_m_commonRow, .ref a_m_kept, .int t_keptRows, .int t_place, .ref a_m_stack, .int t_height, .int t_reckoned, .int t_value, .ref a_m_memory, .ref a_m_registers, .int t_known, .int t_pc, .int t_unwound, .ref a_m_next])), (a_m_bytes, .inl (K 1, 512, .inl m_bytes)), (a_m_stack, .inl (K 1, 16, .inl m_stack)), (a_m_memory, .inl (K 1, 256, .inl m_memory))]) (c_Md_within l D K x1 18 23 q84 hq84) (cs_Md_75 rfl rfl ⟨Nat.le_of_ble_eq_true rfl, Nat.le_of_ble_eq_true rfl⟩) (gOver.rd [] (by decide) rfl) (Nat.le_of_ble_eq_true rfl) ⟨Nat.le_of_ble_eq_true rfl, Nat.le_of_ble_eq_true rfl⟩ d_Md_rearrange_84 rfl rfl ?_
  refine g_if_ne (tgt := 122) d_Md_rearrange_87 (by decide) (fun hc => ?_) (fun hc => ?_)
  · replace h := it_f hc h
    refine g_lsub (L' := [(0, .ref a_t), (1, .int x1), (2, .int x2), (3, .int s0)]) [1, 2, 3, 0] rfl ?_
    exact j_Md_rearrange_122 l D K a_t a_m_bytes a_m_begins a_m_isCommon a_m_common a_m_code a_m_data a_m_back a_m_first a_m_range a_m_from a_m_to a_m_row a_m_commonRow a_m_kept a_m_stack a_m_memory a_m_registers a_m_next t_thrown t_size t_entries t_at t_limit t_bad t_keptRows t_place t_height t_reckoned t_value t_known t_pc t_unwound m_bytes m_stack m_memory x1 x2 s0 o h
  · replace h := it_t hc h
    refine g_iload_n d_Md_rearrange_90 rfl ?_
    refine g_bipush (v := 6) d_Md_rearrange_91 (by decide) ?_
    refine g_icmp_eq (tgt := 122) d_Md_rearrange_93 (by decide) (fun hc => ?_) (fun hc => ?_)
    · replace h := it_t hc h
      refine g_lsub (L' := [(0, .ref a_t), (1, .int x1), (2, .int x2), (3, .int s0)]) [1, 2, 3, 0] rfl ?_
      exact j_Md_rearrange_122 l D K a_t a_m_bytes a_m_begins a_m_isCommon a_m_common a_m_code a_m_data a_m_back a_m_first a_m_range a_m_from a_m_to a_m_row a_m_commonRow a_m_kept a_m_stack a_m_memory a_m_registers a_m_next t_thrown t_size t_entries t_at t_limit t_bad t_keptRows t_place t_height t_reckoned t_value t_known t_pc t_unwound m_bytes m_stack m_memory x1 x2 s0 o h
    · replace h := it_f hc h
      refine g_iload_n d_Md_rearrange_96 rfl ?_
      refine g_bipush (v := 25) d_Md_rearrange_97 (by decide) ?_
      refine g_icmp_eq (tgt := 122) d_Md_rearrange_99 (by decide) (fun hc => ?_) (fun hc => ?_)
      · replace h := it_t hc h
        refine g_lsub (L' := [(0, .ref a_t), (1, .int x1), (2, .int x2), (3, .int s0)]) [1, 2, 3, 0] rfl ?_
        exact j_Md_rearrange_122 l D K a_t a_m_bytes a_m_begins a_m_isCommon a_m_common a_m_code a_m_data a_m_back a_m_first a_m_range a_m_from a_m_to a_m_row a_m_commonRow a_m_kept a_m_stack a_m_memory a_m_registers a_m_next t_thrown t_size t_entries t_at t_limit t_bad t_keptRows t_place t_height t_reckoned t_value t_known t_pc t_unwound m_bytes m_stack m_memory x1 x2 s0 o h
      · replace h := it_f hc h
        refine g_iload_n d_Md_rearrange_102 rfl ?_
        refine g_bipush (v := 31) d_Md_rearrange_103 (by decide) ?_
        refine g_icmp_eq (tgt := 122) d_Md_rearrange_105 (by decide) (fun hc => ?_) (fun hc => ?_)
        · replace h := it_t hc h
          refine g_lsub (L' := [(0, .ref a_t), (1, .int x1), (2, .int x2), (3, .int s0)]) [1, 2, 3, 0] rfl ?_
          exact j_Md_rearrange_122 l D K a_t a_m_bytes a_m_begins a_m_isCommon a_m_common a_m_code a_m_data a_m_back a_m_first a_m_range a_m_from a_m_to a_m_row a_m_commonRow a_m_kept a_m_stack a_m_memory a_m_registers a_m_next t_thrown t_size t_entries t_at t_limit t_bad t_keptRows t_place t_height t_reckoned t_value t_known t_pc t_unwound m_bytes m_stack m_memory x1 x2 s0 o h
        · replace h := it_f hc h
          refine g_iload_n d_Md_rearrange_108 rfl ?_
          refine g_bipush (v := 32) d_Md_rearrange_109 (by decide) ?_
          refine g_icmp_eq (tgt := 122) d_Md_rearrange_111 (by decide) (fun hc => ?_) (fun hc => ?_)
          · replace h := it_t hc h
            refine g_lsub (L' := [(0, .ref a_t), (1, .int x1), (2, .int x2), (3, .int s0)]) [1, 2, 3, 0] rfl ?_
            exact j_Md_rearrange_122 l D K a_t a_m_bytes a_m_begins a_m_isCommon a_m_common a_m_code a_m_data a_m_back a_m_first a_m_range a_m_from a_m_to a_m_row a_m_commonRow a_m_kept a_m_stack a_m_memory a_m_registers a_m_next t_thrown t_size t_entries t_at t_limit t_bad t_keptRows t_place t_height t_reckoned t_value t_known t_pc t_unwound m_bytes m_stack m_memory x1 x2 s0 o h
          · replace h := it_f hc h
            refine g_iload_n d_Md_rearrange_114 rfl ?_
            refine g_bipush (v := 35) d_Md_rearrange_115 (by decide) ?_
            refine g_icmp_eq (tgt := 122) d_Md_rearrange_117 (by decide) (fun hc => ?_) (fun hc => ?_)
            · replace h := it_t hc h
              refine g_lsub (L' := [(0, .ref a_t), (1, .int x1), (2, .int x2), (3, .int s0)]) [1, 2, 3, 0] rfl ?_
              exact j_Md_rearrange_122 l D K a_t a_m_bytes a_m_begins a_m_isCommon a_m_common a_m_code a_m_data a_m_back a_m_first a_m_range a_m_from a_m_to a_m_row a_m_commonRow a_m_kept a_m_stack a_m_memory a_m_registers a_m_next t_thrown t_size t_entries t_at t_limit t_bad t_keptRows t_place t_height t_reckoned t_value t_known t_pc t_unwound m_bytes m_stack m_memory x1 x2 s0 o h
            · replace h := it_f hc h
              refine g_iconst (v := 2) d_Md_rearrange_120 (by decide) ?_
              obtain rfl := Option.some.inj h
              exact g_iret rfl d_Md_rearrange_121
def f_Md_rearrange_29 (t_at : Int32) (t_limit : Int32) (t_bad : Int32) (t_height : Int32) (m_bytes : Nat → Int32) (m_stack : Nat → Int32) (m_memory : Nat → Int32) (x1 : Int32) (s0 : Int32) : Option (Int32 × Int32 × Int32 × Int32 × (Nat → Int32)) := if t_bad = 0 then (if x1 = 20 then (f_Md_rearrange_78 t_at t_limit t_bad t_height m_bytes m_stack m_memory x1 s0 2) else (if x1 = 22 then (f_Md_rearrange_78 t_at t_limit t_bad t_height m_bytes m_stack m_memory x1 s0 2) else (if x1 = 23 then (f_Md_rearrange_78 t_at t_limit t_bad t_height m_bytes m_stack m_memory x1 s0 3) else (if x1 = 21 then (f_Md_rearrange_78 t_at t_limit t_bad t_height m_bytes m_stack m_memory x1 s0 (s0 + 1)) else (f_Md_rearrange_78 t_at t_limit t_bad t_height m_bytes m_stack m_memory x1 s0 1))))) else (some (2, t_at, t_bad, t_height, m_stack))
set_option maxRecDepth 100000 in
set_option maxHeartbeats 4000000 in
theorem j_Md_rearrange_29 (l : Launch) (D : va_G) (K : Nat → ClassId) (a_t a_m_bytes a_m_begins a_m_isCommon a_m_common a_m_code a_m_data a_m_back a_m_first a_m_range a_m_from a_m_to a_m_row a_m_commonRow a_m_kept a_m_stack a_m_memory a_m_registers a_m_next : Nat) {av : List Value} {w0 : va_W} (t_thrown : Int32) (t_size : Int32) (t_entries : Int32) (t_at : Int32) (t_limit : Int32) (t_bad : Int32) (t_keptRows : Int32) (t_place : Int32) (t_height : Int32) (t_reckoned : Int32) (t_value : Int32) (t_known : Int32) (t_pc : Int32) (t_unwound : Int32) (m_bytes : Nat → Int32) (m_stack : Nat → Int32) (m_memory : Nat → Int32) (x1 : Int32) (s0 : Int32) (o : Int32 × Int32 × Int32 × Int32 × (Nat → Int32)) (h : f_Md_rearrange_29 t_at t_limit t_bad t_height m_bytes m_stack m_memory x1 s0 = some o) : Gm l y_Md_rearrange b_Md_rearrange 5 (some .int) { frames := 2, cells := 0, slots := 0, locals := 42 } D vwCl (xTy K) av w0 (CtF D vwCl av w0 (some (.int o.1)) [(a_t, .inr (11, [.int t_thrown, .ref a_m_bytes, .int t_size, .int t_entries, .ref a_m_begins, .ref a_m_isCommon, .ref a_m_common, .ref a_m_code, .ref a_m_data, .ref a_m_back, .ref a_m_first, .ref a_m_range, .ref a_m_from, .ref a_m_to, .int o.2.1, .int t_limit, .int o.2.2.1, .ref a_m_row, .ref a_m_commonRow, .ref a_m_kept, .int t_keptRows, .int t_place, .ref a_m_stack, .int o.2.2.2.1, .int t_reckoned, .int t_value, .ref a_m_memory, .ref a_m_registers, .int t_known, .int t_pc, .int t_unwound, .ref a_m_next])), (a_m_bytes, .inl (K 1, 512, .inl m_bytes)), (a_m_stack, .inl (K 1, 16, .inl o.2.2.2.2)), (a_m_memory, .inl (K 1, 256, .inl m_memory))]) 0 0 [(a_t, .inr (11, [.int t_thrown, .ref a_m_bytes, .int t_size, .int t_entries, .ref a_m_begins, .ref a_m_isCommon, .ref a_m_common, .ref a_m_code, .ref a_m_data, .ref a_m_back, .ref a_m_first, .ref a_m_range, .ref a_m_from, .ref a_m_to, .int t_at, .int t_limit, .int t_bad, .ref a_m_row, .ref a_m_commonRow, .ref a_m_kept, .int t_keptRows, .int t_place, .ref a_m_stack, .int t_height, .int t_reckoned, .int t_value, .ref a_m_memory, .ref a_m_registers, .int t_known, .int t_pc, .int t_unwound, .ref a_m_next])), (a_m_bytes, .inl (K 1, 512, .inl m_bytes)), (a_m_stack, .inl (K 1, 16, .inl m_stack)), (a_m_memory, .inl (K 1, 256, .inl m_memory))] [(0, .ref a_t), (1, .int x1)] 29 [.int s0] := by
  unfold f_Md_rearrange_29 at h
  refine g_istore_n (L' := [(2, .int s0), (0, .ref a_t), (1, .int x1)]) d_Md_rearrange_29 (by decide) rfl ?_
  refine g_aload_n d_Md_rearrange_30 rfl ?_
  refine gf_Md_85 0 rfl (v := .int t_bad) rfl d_Md_rearrange_31 ?_
  refine g_if_eq (tgt := 39) d_Md_rearrange_34 (by decide) (fun hc => ?_) (fun hc => ?_)
  · replace h := it_t hc h
    refine g_iload_n d_Md_rearrange_39 rfl ?_
    refine g_bipush (v := 20) d_Md_rearrange_40 (by decide) ?_
    refine g_icmp_eq (tgt := 51) d_Md_rearrange_42 (by decide) (fun hc => ?_) (fun hc => ?_)
    · replace h := it_t hc h
      refine g_iconst (v := 2) d_Md_rearrange_51 (by decide) ?_
      refine g_goto (tgt := 78) d_Md_rearrange_52 (by decide) ?_
      refine g_lsub (L' := [(0, .ref a_t), (1, .int x1), (2, .int s0)]) [1, 2, 0] rfl ?_
      exact j_Md_rearrange_78 l D K a_t a_m_bytes a_m_begins a_m_isCommon a_m_common a_m_code a_m_data a_m_back a_m_first a_m_range a_m_from a_m_to a_m_row a_m_commonRow a_m_kept a_m_stack a_m_memory a_m_registers a_m_next t_thrown t_size t_entries t_at t_limit t_bad t_keptRows t_place t_height t_reckoned t_value t_known t_pc t_unwound m_bytes m_stack m_memory x1 s0 2 o h
    · replace h := it_f hc h
      refine g_iload_n d_Md_rearrange_45 rfl ?_
      refine g_bipush (v := 22) d_Md_rearrange_46 (by decide) ?_
      refine g_icmp_ne (tgt := 55) d_Md_rearrange_48 (by decide) (fun hc => ?_) (fun hc => ?_)
      · replace h := it_f hc h
        refine g_iload_n d_Md_rearrange_55 rfl ?_
        refine g_bipush (v := 23) d_Md_rearrange_56 (by decide) ?_
        refine g_icmp_ne (tgt := 65) d_Md_rearrange_58 (by decide) (fun hc => ?_) (fun hc => ?_)
        · replace h := it_f hc h
          refine g_iload_n d_Md_rearrange_65 rfl ?_
          refine g_bipush (v := 21) d_Md_rearrange_66 (by decide) ?_
          refine g_icmp_ne (tgt := 77) d_Md_rearrange_68 (by decide) (fun hc => ?_) (fun hc => ?_)
          · replace h := it_f hc h
            refine g_iconst (v := 1) d_Md_rearrange_77 (by decide) ?_
            refine g_lsub (L' := [(0, .ref a_t), (1, .int x1), (2, .int s0)]) [1, 2, 0] rfl ?_
            exact j_Md_rearrange_78 l D K a_t a_m_bytes a_m_begins a_m_isCommon a_m_common a_m_code a_m_data a_m_back a_m_first a_m_range a_m_from a_m_to a_m_row a_m_commonRow a_m_kept a_m_stack a_m_memory a_m_registers a_m_next t_thrown t_size t_entries t_at t_limit t_bad t_keptRows t_place t_height t_reckoned t_value t_known t_pc t_unwound m_bytes m_stack m_memory x1 s0 1 o h
          · replace h := it_t hc h
            refine g_iload_n d_Md_rearrange_71 rfl ?_
            refine g_iconst (v := 1) d_Md_rearrange_72 (by decide) ?_
            refine g_iadd d_Md_rearrange_73 ?_
            refine g_goto (tgt := 78) d_Md_rearrange_74 (by decide) ?_
            refine g_lsub (L' := [(0, .ref a_t), (1, .int x1), (2, .int s0)]) [1, 2, 0] rfl ?_
            exact j_Md_rearrange_78 l D K a_t a_m_bytes a_m_begins a_m_isCommon a_m_common a_m_code a_m_data a_m_back a_m_first a_m_range a_m_from a_m_to a_m_row a_m_commonRow a_m_kept a_m_stack a_m_memory a_m_registers a_m_next t_thrown t_size t_entries t_at t_limit t_bad t_keptRows t_place t_height t_reckoned t_value t_known t_pc t_unwound m_bytes m_stack m_memory x1 s0 (s0 + 1) o h
        · replace h := it_t hc h
          refine g_iconst (v := 3) d_Md_rearrange_61 (by decide) ?_
          refine g_goto (tgt := 78) d_Md_rearrange_62 (by decide) ?_
          refine g_lsub (L' := [(0, .ref a_t), (1, .int x1), (2, .int s0)]) [1, 2, 0] rfl ?_
          exact j_Md_rearrange_78 l D K a_t a_m_bytes a_m_begins a_m_isCommon a_m_common a_m_code a_m_data a_m_back a_m_first a_m_range a_m_from a_m_to a_m_row a_m_commonRow a_m_kept a_m_stack a_m_memory a_m_registers a_m_next t_thrown t_size t_entries t_at t_limit t_bad t_keptRows t_place t_height t_reckoned t_value t_known t_pc t_unwound m_bytes m_stack m_memory x1 s0 3 o h
      · replace h := it_t hc h
        refine g_iconst (v := 2) d_Md_rearrange_51 (by decide) ?_
        refine g_goto (tgt := 78) d_Md_rearrange_52 (by decide) ?_
        refine g_lsub (L' := [(0, .ref a_t), (1, .int x1), (2, .int s0)]) [1, 2, 0] rfl ?_
        exact j_Md_rearrange_78 l D K a_t a_m_bytes a_m_begins a_m_isCommon a_m_common a_m_code a_m_data a_m_back a_m_first a_m_range a_m_from a_m_to a_m_row a_m_commonRow a_m_kept a_m_stack a_m_memory a_m_registers a_m_next t_thrown t_size t_entries t_at t_limit t_bad t_keptRows t_place t_height t_reckoned t_value t_known t_pc t_unwound m_bytes m_stack m_memory x1 s0 2 o h
  · replace h := it_f hc h
    refine g_iconst (v := 2) d_Md_rearrange_37 (by decide) ?_
    obtain rfl := Option.some.inj h
    exact g_iret rfl d_Md_rearrange_38
def f_Md_rearrange (t_at : Int32) (t_limit : Int32) (t_bad : Int32) (t_height : Int32) (m_bytes : Nat → Int32) (m_stack : Nat → Int32) (m_memory : Nat → Int32) (o1 : Int32) : Option (Int32 × Int32 × Int32 × Int32 × (Nat → Int32)) := if o1 = 21 then (((f_Md_unsigned t_at t_limit t_bad m_bytes 1).bind fun q8 => f_Md_rearrange_29 q8.2.1 t_limit q8.2.2 t_height m_bytes m_stack m_memory o1 q8.1)) else (if o1 = 35 then (((f_Md_leb t_at t_limit t_bad m_bytes 0).bind fun q22 => f_Md_rearrange_29 q22.2.1 t_limit q22.2.2 t_height m_bytes m_stack m_memory o1 q22.1)) else (f_Md_rearrange_29 t_at t_limit t_bad t_height m_bytes m_stack m_memory o1 0))
set_option maxRecDepth 100000 in
set_option maxHeartbeats 4000000 in
theorem c_Md_rearrange (l : Launch) (D : va_G) (K : Nat → ClassId) (a_t a_m_bytes a_m_begins a_m_isCommon a_m_common a_m_code a_m_data a_m_back a_m_first a_m_range a_m_from a_m_to a_m_row a_m_commonRow a_m_kept a_m_stack a_m_memory a_m_registers a_m_next : Nat) (t_thrown : Int32) (t_size : Int32) (t_entries : Int32) (t_at : Int32) (t_limit : Int32) (t_bad : Int32) (t_keptRows : Int32) (t_place : Int32) (t_height : Int32) (t_reckoned : Int32) (t_value : Int32) (t_known : Int32) (t_pc : Int32) (t_unwound : Int32) (m_bytes : Nat → Int32) (m_stack : Nat → Int32) (m_memory : Nat → Int32) (o1 : Int32) (o : Int32 × Int32 × Int32 × Int32 × (Nat → Int32)) (h : f_Md_rearrange t_at t_limit t_bad t_height m_bytes m_stack m_memory o1 = some o) : Ct l y_Md_rearrange b_Md_rearrange 5 (some .int) { frames := 2, cells := 0, slots := 0, locals := 42 } D vwCl (xTy K) [.ref a_t, .int o1] [(a_t, .inr (11, [.int t_thrown, .ref a_m_bytes, .int t_size, .int t_entries, .ref a_m_begins, .ref a_m_isCommon, .ref a_m_common, .ref a_m_code, .ref a_m_data, .ref a_m_back, .ref a_m_first, .ref a_m_range, .ref a_m_from, .ref a_m_to, .int t_at, .int t_limit, .int t_bad, .ref a_m_row, .ref a_m_commonRow, .ref a_m_kept, .int t_keptRows, .int t_place, .ref a_m_stack, .int t_height, .int t_reckoned, .int t_value, .ref a_m_memory, .ref a_m_registers, .int t_known, .int t_pc, .int t_unwound, .ref a_m_next])), (a_m_bytes, .inl (K 1, 512, .inl m_bytes)), (a_m_stack, .inl (K 1, 16, .inl m_stack)), (a_m_memory, .inl (K 1, 256, .inl m_memory))] (some (.int o.1)) [(a_t, .inr (11, [.int t_thrown, .ref a_m_bytes, .int t_size, .int t_entries, .ref a_m_begins, .ref a_m_isCommon, .ref a_m_common, .ref a_m_code, .ref a_m_data, .ref a_m_back, .ref a_m_first, .ref a_m_range, .ref a_m_from, .ref a_m_to, .int o.2.1, .int t_limit, .int o.2.2.1, .ref a_m_row, .ref a_m_commonRow, .ref a_m_kept, .int t_keptRows, .int t_place, .ref a_m_stack, .int o.2.2.2.1, .int t_reckoned, .int t_value, .ref a_m_memory, .ref a_m_registers, .int t_known, .int t_pc, .int t_unwound, .ref a_m_next])), (a_m_bytes, .inl (K 1, 512, .inl m_bytes)), (a_m_stack, .inl (K 1, 16, .inl o.2.2.2.2)), (a_m_memory, .inl (K 1, 256, .inl m_memory))] := by
  refine Ct.ofG (by decide) (Nat.le_of_ble_eq_true rfl) ?_
  refine g_L (L' := [(0, .ref a_t), (1, .int o1)]) rfl ?_
  unfold f_Md_rearrange at h
  refine g_iload_n d_Md_rearrange_0 rfl ?_
  refine g_bipush (v := 21) d_Md_rearrange_1 (by decide) ?_
  refine g_icmp_ne (tgt := 14) d_Md_rearrange_3 (by decide) (fun hc => ?_) (fun hc => ?_)
  · replace h := it_f hc h
    refine g_iload_n d_Md_rearrange_14 rfl ?_
    refine g_bipush (v := 35) d_Md_rearrange_15 (by decide) ?_
    refine g_icmp_ne (tgt := 28) d_Md_rearrange_17 (by decide) (fun hc => ?_) (fun hc => ?_)
    · replace h := it_f hc h
      refine g_iconst (v := 0) d_Md_rearrange_28 (by decide) ?_
      exact j_Md_rearrange_29 l D K a_t a_m_bytes a_m_begins a_m_isCommon a_m_common a_m_code a_m_data a_m_back a_m_first a_m_range a_m_from a_m_to a_m_row a_m_commonRow a_m_kept a_m_stack a_m_memory a_m_registers a_m_next t_thrown t_size t_entries t_at t_limit t_bad t_keptRows t_place t_height t_reckoned t_value t_known t_pc t_unwound m_bytes m_stack m_memory o1 0 o h
    · replace h := it_t hc h
      refine g_aload_n d_Md_rearrange_20 rfl ?_
      refine g_iconst (v := 0) d_Md_rearrange_21 (by decide) ?_
      obtain ⟨q22, hq22, h⟩ := it_b h
      refine g_callV (ci := 11) (q := (xR_Md, xF_Md, 32)) (As := [.int 0]) (rest := []) (st2 := [.int q22.1]) (ws2 := [(a_t, .inr (11, [.int t_thrown, .ref a_m_bytes, .int t_size, .int t_entries, .ref a_m_begins, .ref a_m_isCommon, .ref a_m_common, .ref a_m_code, .ref a_m_data, .ref a_m_back, .ref a_m_first, .ref a_m_range, .ref a_m_from, .ref a_m_to, .int q22.2.1, .int t_limit, .int q22.2.2, .ref a_m_row, .ref a_m_commonRow, .ref a_m_kept, .int t_keptRows, .int t_place, .ref a_m_stack, .int t_height, .int t_reckoned, .int t_value, .ref a_m_memory, .ref a_m_registers, .int t_known, .int t_pc, .int t_unwound, .ref a_m_next])), (a_m_bytes, .inl (K 1, 512, .inl m_bytes)), (a_m_stack, .inl (K 1, 16, .inl m_stack)), (a_m_memory, .inl (K 1, 256, .inl m_memory))]) (c_Md_leb l D K a_t a_m_bytes a_m_begins a_m_isCommon a_m_common a_m_code a_m_data a_m_back a_m_first a_m_range a_m_from a_m_to a_m_row a_m_commonRow a_m_kept a_m_stack a_m_memory a_m_registers a_m_next t_thrown t_size t_entries t_at t_limit t_bad t_keptRows t_place t_height t_reckoned t_value t_known t_pc t_unwound m_bytes 0 q22 hq22) (cs_Md_97 rfl rfl ⟨Nat.le_of_ble_eq_true rfl, Nat.le_of_ble_eq_true rfl⟩) rfl 0 rfl (gOver.mk2 [0, 1] [some 0, some 1, none, none] (by decide) (by decide) rfl rfl rfl) (Nat.le_of_ble_eq_true rfl) ⟨Nat.le_of_ble_eq_true rfl, Nat.le_of_ble_eq_true rfl⟩ d_Md_rearrange_22 rfl rfl ?_
      refine g_goto (tgt := 29) d_Md_rearrange_25 (by decide) ?_
      exact j_Md_rearrange_29 l D K a_t a_m_bytes a_m_begins a_m_isCommon a_m_common a_m_code a_m_data a_m_back a_m_first a_m_range a_m_from a_m_to a_m_row a_m_commonRow a_m_kept a_m_stack a_m_memory a_m_registers a_m_next t_thrown t_size t_entries q22.2.1 t_limit q22.2.2 t_keptRows t_place t_height t_reckoned t_value t_known t_pc t_unwound m_bytes m_stack m_memory o1 q22.1 o h
  · replace h := it_t hc h
    refine g_aload_n d_Md_rearrange_6 rfl ?_
    refine g_iconst (v := 1) d_Md_rearrange_7 (by decide) ?_
    obtain ⟨q8, hq8, h⟩ := it_b h
    refine g_callV (ci := 11) (q := (xR_Md, xF_Md, 32)) (As := [.int 1]) (rest := []) (st2 := [.int q8.1]) (ws2 := [(a_t, .inr (11, [.int t_thrown, .ref a_m_bytes, .int t_size, .int t_entries, .ref a_m_begins, .ref a_m_isCommon, .ref a_m_common, .ref a_m_code, .ref a_m_data, .ref a_m_back, .ref a_m_first, .ref a_m_range, .ref a_m_from, .ref a_m_to, .int q8.2.1, .int t_limit, .int q8.2.2, .ref a_m_row, .ref a_m_commonRow, .ref a_m_kept, .int t_keptRows, .int t_place, .ref a_m_stack, .int t_height, .int t_reckoned, .int t_value, .ref a_m_memory, .ref a_m_registers, .int t_known, .int t_pc, .int t_unwound, .ref a_m_next])), (a_m_bytes, .inl (K 1, 512, .inl m_bytes)), (a_m_stack, .inl (K 1, 16, .inl m_stack)), (a_m_memory, .inl (K 1, 256, .inl m_memory))]) (c_Md_unsigned l D K a_t a_m_bytes a_m_begins a_m_isCommon a_m_common a_m_code a_m_data a_m_back a_m_first a_m_range a_m_from a_m_to a_m_row a_m_commonRow a_m_kept a_m_stack a_m_memory a_m_registers a_m_next t_thrown t_size t_entries t_at t_limit t_bad t_keptRows t_place t_height t_reckoned t_value t_known t_pc t_unwound m_bytes 1 q8 hq8) (cs_Md_89 rfl rfl ⟨Nat.le_of_ble_eq_true rfl, Nat.le_of_ble_eq_true rfl⟩) rfl 0 rfl (gOver.mk2 [0, 1] [some 0, some 1, none, none] (by decide) (by decide) rfl rfl rfl) (Nat.le_of_ble_eq_true rfl) ⟨Nat.le_of_ble_eq_true rfl, Nat.le_of_ble_eq_true rfl⟩ d_Md_rearrange_8 rfl rfl ?_
    refine g_goto (tgt := 29) d_Md_rearrange_11 (by decide) ?_
    exact j_Md_rearrange_29 l D K a_t a_m_bytes a_m_begins a_m_isCommon a_m_common a_m_code a_m_data a_m_back a_m_first a_m_range a_m_from a_m_to a_m_row a_m_commonRow a_m_kept a_m_stack a_m_memory a_m_registers a_m_next t_thrown t_size t_entries q8.2.1 t_limit q8.2.2 t_keptRows t_place t_height t_reckoned t_value t_known t_pc t_unwound m_bytes m_stack m_memory o1 q8.1 o h
def f_Md_operation_49 (t_at : Int32) (t_limit : Int32) (t_bad : Int32) (t_height : Int32) (t_known : Int32) (m_bytes : Nat → Int32) (m_stack : Nat → Int32) (m_memory : Nat → Int32) (m_registers : Nat → Int32) (x1 : Int32) (x2 : Int32) (x3 : Int32) (x4 : Int32) (x5 : Int32) : Option (Int32 × Int32 × Int32 × Int32 × (Nat → Int32)) := if ((t_height - 1) - 1) < 0 ∨ 16 ≤ ((t_height - 1) - 1).toNatClampNeg then none else ((f_Md_two x1 (m_stack ((t_height - 1) - 1).toNatClampNeg) x5).bind fun q83 => if ((t_height - 1) - 1) < 0 ∨ 16 ≤ ((t_height - 1) - 1).toNatClampNeg then none else some (0, t_at, t_bad, t_height - 1, upd m_stack ((t_height - 1) - 1).toNatClampNeg q83))
set_option maxRecDepth 100000 in
set_option maxHeartbeats 4000000 in
theorem j_Md_operation_49 (l : Launch) (D : va_G) (K : Nat → ClassId) (a_t a_m_bytes a_m_begins a_m_isCommon a_m_common a_m_code a_m_data a_m_back a_m_first a_m_range a_m_from a_m_to a_m_row a_m_commonRow a_m_kept a_m_stack a_m_memory a_m_registers a_m_next : Nat) {av : List Value} {w0 : va_W} (t_thrown : Int32) (t_size : Int32) (t_entries : Int32) (t_at : Int32) (t_limit : Int32) (t_bad : Int32) (t_keptRows : Int32) (t_place : Int32) (t_height : Int32) (t_reckoned : Int32) (t_value : Int32) (t_known : Int32) (t_pc : Int32) (t_unwound : Int32) (m_bytes : Nat → Int32) (m_stack : Nat → Int32) (m_memory : Nat → Int32) (m_registers : Nat → Int32) (x1 : Int32) (x2 : Int32) (x3 : Int32) (x4 : Int32) (x5 : Int32) (o : Int32 × Int32 × Int32 × Int32 × (Nat → Int32)) (h : f_Md_operation_49 t_at t_limit t_bad t_height t_known m_bytes m_stack m_memory m_registers x1 x2 x3 x4 x5 = some o) : Gm l y_Md_operation b_Md_operation 8 (some .int) { frames := 3, cells := 0, slots := 0, locals := 69 } D vwCl (xTy K) av w0 (CtF D vwCl av w0 (some (.int o.1)) [(a_t, .inr (11, [.int t_thrown, .ref a_m_bytes, .int t_size, .int t_entries, .ref a_m_begins, .ref a_m_isCommon, .ref a_m_common, .ref a_m_code, .ref a_m_data, .ref a_m_back, .ref a_m_first, .ref a_m_range, .ref a_m_from, .ref a_m_to, .int o.2.1, .int t_limit, .int o.2.2.1, .ref a_m_row, .ref a_m_commonRow, .ref a_m_kept, .int t_keptRows, .int t_place, .ref a_m_stack, .int o.2.2.2.1, .int t_reckoned, .int t_value, .ref a_m_memory, .ref a_m_registers, .int t_known, .int t_pc, .int t_unwound, .ref a_m_next])), (a_m_bytes, .inl (K 1, 512, .inl m_bytes)), (a_m_stack, .inl (K 1, 16, .inl o.2.2.2.2)), (a_m_memory, .inl (K 1, 256, .inl m_memory)), (a_m_registers, .inl (K 1, 8, .inl m_registers))]) 0 0 [(a_t, .inr (11, [.int t_thrown, .ref a_m_bytes, .int t_size, .int t_entries, .ref a_m_begins, .ref a_m_isCommon, .ref a_m_common, .ref a_m_code, .ref a_m_data, .ref a_m_back, .ref a_m_first, .ref a_m_range, .ref a_m_from, .ref a_m_to, .int t_at, .int t_limit, .int t_bad, .ref a_m_row, .ref a_m_commonRow, .ref a_m_kept, .int t_keptRows, .int t_place, .ref a_m_stack, .int t_height, .int t_reckoned, .int t_value, .ref a_m_memory, .ref a_m_registers, .int t_known, .int t_pc, .int t_unwound, .ref a_m_next])), (a_m_bytes, .inl (K 1, 512, .inl m_bytes)), (a_m_stack, .inl (K 1, 16, .inl m_stack)), (a_m_memory, .inl (K 1, 256, .inl m_memory)), (a_m_registers, .inl (K 1, 8, .inl m_registers))] [(0, .ref a_t), (1, .int x1), (2, .int x2), (3, .int x3), (4, .int x4), (5, .int x5)] 49 [] := by
  unfold f_Md_operation_49 at h
  refine g_aload_n d_Md_operation_49 rfl ?_
  refine g_dup d_Md_operation_50 rfl ?_
  refine gf_Md_164 0 rfl (v := .int t_height) rfl d_Md_operation_51 ?_
  refine g_iconst (v := 1) d_Md_operation_54 (by decide) ?_
  refine g_isub d_Md_operation_55 ?_
  refine pf_Md_164 0 rfl (v := .int (t_height - 1)) rfl rfl (Nat.le_of_ble_eq_true rfl) (ws' := [(a_t, .inr (11, [.int t_thrown, .ref a_m_bytes, .int t_size, .int t_entries, .ref a_m_begins, .ref a_m_isCommon, .ref a_m_common, .ref a_m_code, .ref a_m_data, .ref a_m_back, .ref a_m_first, .ref a_m_range, .ref a_m_from, .ref a_m_to, .int t_at, .int t_limit, .int t_bad, .ref a_m_row, .ref a_m_commonRow, .ref a_m_kept, .int t_keptRows, .int t_place, .ref a_m_stack, .int (t_height - 1), .int t_reckoned, .int t_value, .ref a_m_memory, .ref a_m_registers, .int t_known, .int t_pc, .int t_unwound, .ref a_m_next])), (a_m_bytes, .inl (K 1, 512, .inl m_bytes)), (a_m_stack, .inl (K 1, 16, .inl m_stack)), (a_m_memory, .inl (K 1, 256, .inl m_memory)), (a_m_registers, .inl (K 1, 8, .inl m_registers))]) rfl d_Md_operation_56 ?_
  refine g_aload_n d_Md_operation_59 rfl ?_
  refine gf_Md_53 0 rfl (v := .ref a_m_stack) rfl d_Md_operation_60 ?_
  refine g_aload_n d_Md_operation_63 rfl ?_
  refine gf_Md_164 0 rfl (v := .int (t_height - 1)) rfl d_Md_operation_64 ?_
  refine g_iconst (v := 1) d_Md_operation_67 (by decide) ?_
  refine g_isub d_Md_operation_68 ?_
  refine g_iload_n d_Md_operation_69 rfl ?_
  refine g_aload_n d_Md_operation_70 rfl ?_
  refine gf_Md_53 0 rfl (v := .ref a_m_stack) rfl d_Md_operation_71 ?_
  refine g_aload_n d_Md_operation_74 rfl ?_
  refine gf_Md_164 0 rfl (v := .int (t_height - 1)) rfl d_Md_operation_75 ?_
  refine g_iconst (v := 1) d_Md_operation_78 (by decide) ?_
  refine g_isub d_Md_operation_79 ?_
  obtain ⟨hi80, h⟩ := it_in h
  refine g_iald 2 1 d_Md_operation_80 rfl rfl hi80 ?_
  refine g_iload d_Md_operation_81 rfl ?_
  obtain ⟨q83, hq83, h⟩ := it_b h
  refine g_callS (As := [.int x1, .int (m_stack ((t_height - 1) - 1).toNatClampNeg), .int x5]) (rest := [.int ((t_height - 1) - 1), .ref a_m_stack]) (st2 := [.int q83, .int ((t_height - 1) - 1), .ref a_m_stack]) (ws2 := [(a_t, .inr (11, [.int t_thrown, .ref a_m_bytes, .int t_size, .int t_entries, .ref a_m_begins, .ref a_m_isCommon, .ref a_m_common, .ref a_m_code, .ref a_m_data, .ref a_m_back, .ref a_m_first, .ref a_m_range, .ref a_m_from, .ref a_m_to, .int t_at, .int t_limit, .int t_bad, .ref a_m_row, .ref a_m_commonRow, .ref a_m_kept, .int t_keptRows, .int t_place, .ref a_m_stack, .int (t_height - 1), .int t_reckoned, .int t_value, .ref a_m_memory, .ref a_m_registers, .int t_known, .int t_pc, .int t_unwound, .ref a_m_next])), (a_m_bytes, .inl (K 1, 512, .inl m_bytes)), (a_m_stack, .inl (K 1, 16, .inl m_stack)), (a_m_memory, .inl (K 1, 256, .inl m_memory)), (a_m_registers, .inl (K 1, 8, .inl m_registers))]) (c_Md_two l D K x1 (m_stack ((t_height - 1) - 1).toNatClampNeg) x5 q83 hq83) (cs_Md_177 rfl rfl ⟨Nat.le_of_ble_eq_true rfl, Nat.le_of_ble_eq_true rfl⟩) (gOver.rd [] (by decide) rfl) (Nat.le_of_ble_eq_true rfl) ⟨Nat.le_of_ble_eq_true rfl, Nat.le_of_ble_eq_true rfl⟩ d_Md_operation_83 rfl rfl ?_
  obtain ⟨hi86, h⟩ := it_in h
  refine g_iast 2 1 (ws' := [(a_t, .inr (11, [.int t_thrown, .ref a_m_bytes, .int t_size, .int t_entries, .ref a_m_begins, .ref a_m_isCommon, .ref a_m_common, .ref a_m_code, .ref a_m_data, .ref a_m_back, .ref a_m_first, .ref a_m_range, .ref a_m_from, .ref a_m_to, .int t_at, .int t_limit, .int t_bad, .ref a_m_row, .ref a_m_commonRow, .ref a_m_kept, .int t_keptRows, .int t_place, .ref a_m_stack, .int (t_height - 1), .int t_reckoned, .int t_value, .ref a_m_memory, .ref a_m_registers, .int t_known, .int t_pc, .int t_unwound, .ref a_m_next])), (a_m_bytes, .inl (K 1, 512, .inl m_bytes)), (a_m_stack, .inl (K 1, 16, .inl (upd m_stack ((t_height - 1) - 1).toNatClampNeg q83))), (a_m_memory, .inl (K 1, 256, .inl m_memory)), (a_m_registers, .inl (K 1, 8, .inl m_registers))]) d_Md_operation_86 rfl rfl hi86 rfl ?_
  refine g_iconst (v := 0) d_Md_operation_87 (by decide) ?_
  obtain rfl := Option.some.inj h
  exact g_iret rfl d_Md_operation_88
def f_Md_operation (t_at : Int32) (t_limit : Int32) (t_bad : Int32) (t_height : Int32) (t_known : Int32) (m_bytes : Nat → Int32) (m_stack : Nat → Int32) (m_memory : Nat → Int32) (m_registers : Nat → Int32) (o1 : Int32) (b1 : Int32) (h1 : Int32) (c1 : Int32) : Option (Int32 × Int32 × Int32 × Int32 × (Nat → Int32)) := ((f_Md_isTwo o1).bind fun q1 => if q1 = 0 then (((f_Md_within o1 48 79).bind fun q94 => if q94 = 0 then (((f_Md_within o1 112 119).bind fun q114 => if q114 = 0 then (if o1 = 3 ∨ o1 = 13 then (((f_Md_unsigned t_at t_limit t_bad m_bytes 4).bind fun q287 => ((f_Md_pushed q287.2.2 t_height m_stack q287.1).bind fun q290 => some (q290.1, q287.2.1, q287.2.2, q290.2.1, q290.2.2)))) else if o1 = 8 then (((f_Md_unsigned t_at t_limit t_bad m_bytes 1).bind fun q297 => ((f_Md_pushed q297.2.2 t_height m_stack q297.1).bind fun q300 => some (q300.1, q297.2.1, q297.2.2, q300.2.1, q300.2.2)))) else if o1 = 9 then (((f_Md_signed t_at t_limit t_bad m_bytes 1).bind fun q307 => ((f_Md_pushed q307.2.2 t_height m_stack q307.1).bind fun q310 => some (q310.1, q307.2.1, q307.2.2, q310.2.1, q310.2.2)))) else if o1 = 10 then (((f_Md_unsigned t_at t_limit t_bad m_bytes 2).bind fun q317 => ((f_Md_pushed q317.2.2 t_height m_stack q317.1).bind fun q320 => some (q320.1, q317.2.1, q317.2.2, q320.2.1, q320.2.2)))) else if o1 = 11 then (((f_Md_signed t_at t_limit t_bad m_bytes 2).bind fun q327 => ((f_Md_pushed q327.2.2 t_height m_stack q327.1).bind fun q330 => some (q330.1, q327.2.1, q327.2.2, q330.2.1, q330.2.2)))) else if o1 = 16 then (((f_Md_leb t_at t_limit t_bad m_bytes 0).bind fun q337 => ((f_Md_pushed q337.2.2 t_height m_stack q337.1).bind fun q340 => some (q340.1, q337.2.1, q337.2.2, q340.2.1, q340.2.2)))) else if o1 = 17 then (((f_Md_leb t_at t_limit t_bad m_bytes 1).bind fun q347 => ((f_Md_pushed q347.2.2 t_height m_stack q347.1).bind fun q350 => some (q350.1, q347.2.1, q347.2.2, q350.2.1, q350.2.2)))) else if o1 = 40 ∨ o1 = 47 then (((f_Md_jump t_at t_limit t_bad t_height m_bytes m_stack o1 b1).bind fun q357 => some (q357.1, q357.2.1, q357.2.2.1, q357.2.2.2, m_stack))) else if o1 = 150 then (some (0, t_at, t_bad, t_height, m_stack)) else if o1 = 156 then (if h1 = 0 then (some (2, t_at, t_bad, t_height, m_stack)) else (((f_Md_pushed t_bad t_height m_stack c1).bind fun q370 => some (q370.1, t_at, t_bad, q370.2.1, q370.2.2)))) else ((f_Md_rearrange t_at t_limit t_bad t_height m_bytes m_stack m_memory o1).bind fun q380 => some (q380.1, q380.2.1, q380.2.2.1, q380.2.2.2.1, q380.2.2.2.2))) else (((f_Md_leb t_at t_limit t_bad m_bytes 1).bind fun q122 => if (o1 - 112) < 0 ∨ 8 ≤ (o1 - 112).toNatClampNeg then none else ((f_Md_pushed q122.2.2 t_height m_stack ((m_registers (o1 - 112).toNatClampNeg) + q122.1)).bind fun q144 => if q144.1 = 0 then (if ((t_known >>> ((o1 - 112) &&& 31)) &&& 1) = 1 then (some (0, q122.2.1, q122.2.2, q144.2.1, q144.2.2)) else (some (4, q122.2.1, q122.2.2, q144.2.1, q144.2.2))) else (some (q144.1, q122.2.1, q122.2.2, q144.2.1, q144.2.2))))))) else (((f_Md_pushed t_bad t_height m_stack (o1 - 48)).bind fun q105 => some (q105.1, t_at, t_bad, q105.2.1, q105.2.2))))) else (((f_Md_lacks t_height 2).bind fun q9 => if q9 = 0 then (if (t_height - 1) < 0 ∨ 16 ≤ (t_height - 1).toNatClampNeg then none else if (m_stack (t_height - 1).toNatClampNeg) = 0 then (if o1 = 27 then (some (5, t_at, t_bad, t_height, m_stack)) else (if o1 = 29 then (some (5, t_at, t_bad, t_height, m_stack)) else (f_Md_operation_49 t_at t_limit t_bad t_height t_known m_bytes m_stack m_memory m_registers o1 b1 h1 c1 (m_stack (t_height - 1).toNatClampNeg)))) else (f_Md_operation_49 t_at t_limit t_bad t_height t_known m_bytes m_stack m_memory m_registers o1 b1 h1 c1 (m_stack (t_height - 1).toNatClampNeg))) else (some (3, t_at, t_bad, t_height, m_stack)))))
set_option maxRecDepth 100000 in
set_option maxHeartbeats 4000000 in
theorem c_Md_operation (l : Launch) (D : va_G) (K : Nat → ClassId) (a_t a_m_bytes a_m_begins a_m_isCommon a_m_common a_m_code a_m_data a_m_back a_m_first a_m_range a_m_from a_m_to a_m_row a_m_commonRow a_m_kept a_m_stack a_m_memory a_m_registers a_m_next : Nat) (t_thrown : Int32) (t_size : Int32) (t_entries : Int32) (t_at : Int32) (t_limit : Int32) (t_bad : Int32) (t_keptRows : Int32) (t_place : Int32) (t_height : Int32) (t_reckoned : Int32) (t_value : Int32) (t_known : Int32) (t_pc : Int32) (t_unwound : Int32) (m_bytes : Nat → Int32) (m_stack : Nat → Int32) (m_memory : Nat → Int32) (m_registers : Nat → Int32) (o1 : Int32) (b1 : Int32) (h1 : Int32) (c1 : Int32) (o : Int32 × Int32 × Int32 × Int32 × (Nat → Int32)) (h : f_Md_operation t_at t_limit t_bad t_height t_known m_bytes m_stack m_memory m_registers o1 b1 h1 c1 = some o) : Ct l y_Md_operation b_Md_operation 8 (some .int) { frames := 3, cells := 0, slots := 0, locals := 69 } D vwCl (xTy K) [.ref a_t, .int o1, .int b1, .int h1, .int c1] [(a_t, .inr (11, [.int t_thrown, .ref a_m_bytes, .int t_size, .int t_entries, .ref a_m_begins, .ref a_m_isCommon, .ref a_m_common, .ref a_m_code, .ref a_m_data, .ref a_m_back, .ref a_m_first, .ref a_m_range, .ref a_m_from, .ref a_m_to, .int t_at, .int t_limit, .int t_bad, .ref a_m_row, .ref a_m_commonRow, .ref a_m_kept, .int t_keptRows, .int t_place, .ref a_m_stack, .int t_height, .int t_reckoned, .int t_value, .ref a_m_memory, .ref a_m_registers, .int t_known, .int t_pc, .int t_unwound, .ref a_m_next])), (a_m_bytes, .inl (K 1, 512, .inl m_bytes)), (a_m_stack, .inl (K 1, 16, .inl m_stack)), (a_m_memory, .inl (K 1, 256, .inl m_memory)), (a_m_registers, .inl (K 1, 8, .inl m_registers))] (some (.int o.1)) [(a_t, .inr (11, [.int t_thrown, .ref a_m_bytes, .int t_size, .int t_entries, .ref a_m_begins, .ref a_m_isCommon, .ref a_m_common, .ref a_m_code, .ref a_m_data, .ref a_m_back, .ref a_m_first, .ref a_m_range, .ref a_m_from, .ref a_m_to, .int o.2.1, .int t_limit, .int o.2.2.1, .ref a_m_row, .ref a_m_commonRow, .ref a_m_kept, .int t_keptRows, .int t_place, .ref a_m_stack, .int o.2.2.2.1, .int t_reckoned, .int t_value, .ref a_m_memory, .ref a_m_registers, .int t_known, .int t_pc, .int t_unwound, .ref a_m_next])), (a_m_bytes, .inl (K 1, 512, .inl m_bytes)), (a_m_stack, .inl (K 1, 16, .inl o.2.2.2.2)), (a_m_memory, .inl (K 1, 256, .inl m_memory)), (a_m_registers, .inl (K 1, 8, .inl m_registers))] := by
  refine Ct.ofG (by decide) (Nat.le_of_ble_eq_true rfl) ?_
  refine g_L (L' := [(0, .ref a_t), (1, .int o1), (2, .int b1), (3, .int h1), (4, .int c1)]) rfl ?_
  unfold f_Md_operation at h
  refine g_iload_n d_Md_operation_0 rfl ?_
  obtain ⟨q1, hq1, h⟩ := it_b h
  refine g_callS (As := [.int o1]) (rest := []) (st2 := [.int q1]) (ws2 := [(a_t, .inr (11, [.int t_thrown, .ref a_m_bytes, .int t_size, .int t_entries, .ref a_m_begins, .ref a_m_isCommon, .ref a_m_common, .ref a_m_code, .ref a_m_data, .ref a_m_back, .ref a_m_first, .ref a_m_range, .ref a_m_from, .ref a_m_to, .int t_at, .int t_limit, .int t_bad, .ref a_m_row, .ref a_m_commonRow, .ref a_m_kept, .int t_keptRows, .int t_place, .ref a_m_stack, .int t_height, .int t_reckoned, .int t_value, .ref a_m_memory, .ref a_m_registers, .int t_known, .int t_pc, .int t_unwound, .ref a_m_next])), (a_m_bytes, .inl (K 1, 512, .inl m_bytes)), (a_m_stack, .inl (K 1, 16, .inl m_stack)), (a_m_memory, .inl (K 1, 256, .inl m_memory)), (a_m_registers, .inl (K 1, 8, .inl m_registers))]) (c_Md_isTwo l D K o1 q1 hq1) (cs_Md_171 rfl rfl ⟨Nat.le_of_ble_eq_true rfl, Nat.le_of_ble_eq_true rfl⟩) (gOver.rd [] (by decide) rfl) (Nat.le_of_ble_eq_true rfl) ⟨Nat.le_of_ble_eq_true rfl, Nat.le_of_ble_eq_true rfl⟩ d_Md_operation_1 rfl rfl ?_
  refine g_if_eq (tgt := 89) d_Md_operation_4 (by decide) (fun hc => ?_) (fun hc => ?_)
  · replace h := it_t hc h
    refine g_iload_n d_Md_operation_89 rfl ?_
    refine g_bipush (v := 48) d_Md_operation_90 (by decide) ?_
    refine g_bipush (v := 79) d_Md_operation_92 (by decide) ?_
    obtain ⟨q94, hq94, h⟩ := it_b h
    refine g_callS (As := [.int o1, .int 48, .int 79]) (rest := []) (st2 := [.int q94]) (ws2 := [(a_t, .inr (11, [.int t_thrown, .ref a_m_bytes, .int t_size, .int t_entries, .ref a_m_begins, .ref a_m_isCommon, .ref a_m_common, .ref a_m_code, .ref a_m_data, .ref a_m_back, .ref a_m_first, .ref a_m_range, .ref a_m_from, .ref a_m_to, .int t_at, .int t_limit, .int t_bad, .ref a_m_row, .ref a_m_commonRow, .ref a_m_kept, .int t_keptRows, .int t_place, .ref a_m_stack, .int t_height, .int t_reckoned, .int t_value, .ref a_m_memory, .ref a_m_registers, .int t_known, .int t_pc, .int t_unwound, .ref a_m_next])), (a_m_bytes, .inl (K 1, 512, .inl m_bytes)), (a_m_stack, .inl (K 1, 16, .inl m_stack)), (a_m_memory, .inl (K 1, 256, .inl m_memory)), (a_m_registers, .inl (K 1, 8, .inl m_registers))]) (c_Md_within l D K o1 48 79 q94 hq94) (cs_Md_75 rfl rfl ⟨Nat.le_of_ble_eq_true rfl, Nat.le_of_ble_eq_true rfl⟩) (gOver.rd [] (by decide) rfl) (Nat.le_of_ble_eq_true rfl) ⟨Nat.le_of_ble_eq_true rfl, Nat.le_of_ble_eq_true rfl⟩ d_Md_operation_94 rfl rfl ?_
    refine g_if_eq (tgt := 109) d_Md_operation_97 (by decide) (fun hc => ?_) (fun hc => ?_)
    · replace h := it_t hc h
      refine g_iload_n d_Md_operation_109 rfl ?_
      refine g_bipush (v := 112) d_Md_operation_110 (by decide) ?_
      refine g_bipush (v := 119) d_Md_operation_112 (by decide) ?_
      obtain ⟨q114, hq114, h⟩ := it_b h
      refine g_callS (As := [.int o1, .int 112, .int 119]) (rest := []) (st2 := [.int q114]) (ws2 := [(a_t, .inr (11, [.int t_thrown, .ref a_m_bytes, .int t_size, .int t_entries, .ref a_m_begins, .ref a_m_isCommon, .ref a_m_common, .ref a_m_code, .ref a_m_data, .ref a_m_back, .ref a_m_first, .ref a_m_range, .ref a_m_from, .ref a_m_to, .int t_at, .int t_limit, .int t_bad, .ref a_m_row, .ref a_m_commonRow, .ref a_m_kept, .int t_keptRows, .int t_place, .ref a_m_stack, .int t_height, .int t_reckoned, .int t_value, .ref a_m_memory, .ref a_m_registers, .int t_known, .int t_pc, .int t_unwound, .ref a_m_next])), (a_m_bytes, .inl (K 1, 512, .inl m_bytes)), (a_m_stack, .inl (K 1, 16, .inl m_stack)), (a_m_memory, .inl (K 1, 256, .inl m_memory)), (a_m_registers, .inl (K 1, 8, .inl m_registers))]) (c_Md_within l D K o1 112 119 q114 hq114) (cs_Md_75 rfl rfl ⟨Nat.le_of_ble_eq_true rfl, Nat.le_of_ble_eq_true rfl⟩) (gOver.rd [] (by decide) rfl) (Nat.le_of_ble_eq_true rfl) ⟨Nat.le_of_ble_eq_true rfl, Nat.le_of_ble_eq_true rfl⟩ d_Md_operation_114 rfl rfl ?_
      refine g_if_eq (tgt := 178) d_Md_operation_117 (by decide) (fun hc => ?_) (fun hc => ?_)
      · replace h := it_t hc h
        refine g_iload_n d_Md_operation_178 rfl ?_
        by_cases hc179_284 : o1 = 3 ∨ o1 = 13
        · replace h := it_t hc179_284 h
          refine g_lookup (off := 105) (tgt := 284) d_Md_operation_179 (by decide) (by rcases hc179_284 with hc | hc <;> (rw [hc]; decide +kernel)) (by decide) ?_
          refine g_aload_n d_Md_operation_284 rfl ?_
          refine g_aload_n d_Md_operation_285 rfl ?_
          refine g_iconst (v := 4) d_Md_operation_286 (by decide) ?_
          obtain ⟨q287, hq287, h⟩ := it_b h
          refine g_callV (ci := 11) (q := (xR_Md, xF_Md, 32)) (As := [.int 4]) (rest := [.ref a_t]) (st2 := [.int q287.1, .ref a_t]) (ws2 := [(a_t, .inr (11, [.int t_thrown, .ref a_m_bytes, .int t_size, .int t_entries, .ref a_m_begins, .ref a_m_isCommon, .ref a_m_common, .ref a_m_code, .ref a_m_data, .ref a_m_back, .ref a_m_first, .ref a_m_range, .ref a_m_from, .ref a_m_to, .int q287.2.1, .int t_limit, .int q287.2.2, .ref a_m_row, .ref a_m_commonRow, .ref a_m_kept, .int t_keptRows, .int t_place, .ref a_m_stack, .int t_height, .int t_reckoned, .int t_value, .ref a_m_memory, .ref a_m_registers, .int t_known, .int t_pc, .int t_unwound, .ref a_m_next])), (a_m_bytes, .inl (K 1, 512, .inl m_bytes)), (a_m_stack, .inl (K 1, 16, .inl m_stack)), (a_m_memory, .inl (K 1, 256, .inl m_memory)), (a_m_registers, .inl (K 1, 8, .inl m_registers))]) (c_Md_unsigned l D K a_t a_m_bytes a_m_begins a_m_isCommon a_m_common a_m_code a_m_data a_m_back a_m_first a_m_range a_m_from a_m_to a_m_row a_m_commonRow a_m_kept a_m_stack a_m_memory a_m_registers a_m_next t_thrown t_size t_entries t_at t_limit t_bad t_keptRows t_place t_height t_reckoned t_value t_known t_pc t_unwound m_bytes 4 q287 hq287) (cs_Md_89 rfl rfl ⟨Nat.le_of_ble_eq_true rfl, Nat.le_of_ble_eq_true rfl⟩) rfl 0 rfl (gOver.mk2 [0, 1] [some 0, some 1, none, none, none] (by decide) (by decide) rfl rfl rfl) (Nat.le_of_ble_eq_true rfl) ⟨Nat.le_of_ble_eq_true rfl, Nat.le_of_ble_eq_true rfl⟩ d_Md_operation_287 rfl rfl ?_
          obtain ⟨q290, hq290, h⟩ := it_b h
          refine g_callV (ci := 11) (q := (xR_Md, xF_Md, 32)) (As := [.int q287.1]) (rest := []) (st2 := [.int q290.1]) (ws2 := [(a_t, .inr (11, [.int t_thrown, .ref a_m_bytes, .int t_size, .int t_entries, .ref a_m_begins, .ref a_m_isCommon, .ref a_m_common, .ref a_m_code, .ref a_m_data, .ref a_m_back, .ref a_m_first, .ref a_m_range, .ref a_m_from, .ref a_m_to, .int q287.2.1, .int t_limit, .int q287.2.2, .ref a_m_row, .ref a_m_commonRow, .ref a_m_kept, .int t_keptRows, .int t_place, .ref a_m_stack, .int q290.2.1, .int t_reckoned, .int t_value, .ref a_m_memory, .ref a_m_registers, .int t_known, .int t_pc, .int t_unwound, .ref a_m_next])), (a_m_bytes, .inl (K 1, 512, .inl m_bytes)), (a_m_stack, .inl (K 1, 16, .inl q290.2.2)), (a_m_memory, .inl (K 1, 256, .inl m_memory)), (a_m_registers, .inl (K 1, 8, .inl m_registers))]) (c_Md_pushed l D K a_t a_m_bytes a_m_begins a_m_isCommon a_m_common a_m_code a_m_data a_m_back a_m_first a_m_range a_m_from a_m_to a_m_row a_m_commonRow a_m_kept a_m_stack a_m_memory a_m_registers a_m_next t_thrown t_size t_entries q287.2.1 t_limit q287.2.2 t_keptRows t_place t_height t_reckoned t_value t_known t_pc t_unwound m_stack q287.1 q290 hq290) (cs_Md_181 rfl rfl ⟨Nat.le_of_ble_eq_true rfl, Nat.le_of_ble_eq_true rfl⟩) rfl 0 rfl (gOver.mk2 [0, 2] [some 0, none, some 1, none, none] (by decide) (by decide) rfl rfl rfl) (Nat.le_of_ble_eq_true rfl) ⟨Nat.le_of_ble_eq_true rfl, Nat.le_of_ble_eq_true rfl⟩ d_Md_operation_290 rfl rfl ?_
          obtain rfl := Option.some.inj h
          exact g_iret rfl d_Md_operation_293
        replace h := it_f hc179_284 h
        by_cases hc179_294 : o1 = 8
        · replace h := it_t hc179_294 h
          refine g_lookup (off := 115) (tgt := 294) d_Md_operation_179 (by decide) (by rw [hc179_294]; decide +kernel) (by decide) ?_
          refine g_aload_n d_Md_operation_294 rfl ?_
          refine g_aload_n d_Md_operation_295 rfl ?_
          refine g_iconst (v := 1) d_Md_operation_296 (by decide) ?_
          obtain ⟨q297, hq297, h⟩ := it_b h
          refine g_callV (ci := 11) (q := (xR_Md, xF_Md, 32)) (As := [.int 1]) (rest := [.ref a_t]) (st2 := [.int q297.1, .ref a_t]) (ws2 := [(a_t, .inr (11, [.int t_thrown, .ref a_m_bytes, .int t_size, .int t_entries, .ref a_m_begins, .ref a_m_isCommon, .ref a_m_common, .ref a_m_code, .ref a_m_data, .ref a_m_back, .ref a_m_first, .ref a_m_range, .ref a_m_from, .ref a_m_to, .int q297.2.1, .int t_limit, .int q297.2.2, .ref a_m_row, .ref a_m_commonRow, .ref a_m_kept, .int t_keptRows, .int t_place, .ref a_m_stack, .int t_height, .int t_reckoned, .int t_value, .ref a_m_memory, .ref a_m_registers, .int t_known, .int t_pc, .int t_unwound, .ref a_m_next])), (a_m_bytes, .inl (K 1, 512, .inl m_bytes)), (a_m_stack, .inl (K 1, 16, .inl m_stack)), (a_m_memory, .inl (K 1, 256, .inl m_memory)), (a_m_registers, .inl (K 1, 8, .inl m_registers))]) (c_Md_unsigned l D K a_t a_m_bytes a_m_begins a_m_isCommon a_m_common a_m_code a_m_data a_m_back a_m_first a_m_range a_m_from a_m_to a_m_row a_m_commonRow a_m_kept a_m_stack a_m_memory a_m_registers a_m_next t_thrown t_size t_entries t_at t_limit t_bad t_keptRows t_place t_height t_reckoned t_value t_known t_pc t_unwound m_bytes 1 q297 hq297) (cs_Md_89 rfl rfl ⟨Nat.le_of_ble_eq_true rfl, Nat.le_of_ble_eq_true rfl⟩) rfl 0 rfl (gOver.mk2 [0, 1] [some 0, some 1, none, none, none] (by decide) (by decide) rfl rfl rfl) (Nat.le_of_ble_eq_true rfl) ⟨Nat.le_of_ble_eq_true rfl, Nat.le_of_ble_eq_true rfl⟩ d_Md_operation_297 rfl rfl ?_
          obtain ⟨q300, hq300, h⟩ := it_b h
          refine g_callV (ci := 11) (q := (xR_Md, xF_Md, 32)) (As := [.int q297.1]) (rest := []) (st2 := [.int q300.1]) (ws2 := [(a_t, .inr (11, [.int t_thrown, .ref a_m_bytes, .int t_size, .int t_entries, .ref a_m_begins, .ref a_m_isCommon, .ref a_m_common, .ref a_m_code, .ref a_m_data, .ref a_m_back, .ref a_m_first, .ref a_m_range, .ref a_m_from, .ref a_m_to, .int q297.2.1, .int t_limit, .int q297.2.2, .ref a_m_row, .ref a_m_commonRow, .ref a_m_kept, .int t_keptRows, .int t_place, .ref a_m_stack, .int q300.2.1, .int t_reckoned, .int t_value, .ref a_m_memory, .ref a_m_registers, .int t_known, .int t_pc, .int t_unwound, .ref a_m_next])), (a_m_bytes, .inl (K 1, 512, .inl m_bytes)), (a_m_stack, .inl (K 1, 16, .inl q300.2.2)), (a_m_memory, .inl (K 1, 256, .inl m_memory)), (a_m_registers, .inl (K 1, 8, .inl m_registers))]) (c_Md_pushed l D K a_t a_m_bytes a_m_begins a_m_isCommon a_m_common a_m_code a_m_data a_m_back a_m_first a_m_range a_m_from a_m_to a_m_row a_m_commonRow a_m_kept a_m_stack a_m_memory a_m_registers a_m_next t_thrown t_size t_entries q297.2.1 t_limit q297.2.2 t_keptRows t_place t_height t_reckoned t_value t_known t_pc t_unwound m_stack q297.1 q300 hq300) (cs_Md_181 rfl rfl ⟨Nat.le_of_ble_eq_true rfl, Nat.le_of_ble_eq_true rfl⟩) rfl 0 rfl (gOver.mk2 [0, 2] [some 0, none, some 1, none, none] (by decide) (by decide) rfl rfl rfl) (Nat.le_of_ble_eq_true rfl) ⟨Nat.le_of_ble_eq_true rfl, Nat.le_of_ble_eq_true rfl⟩ d_Md_operation_300 rfl rfl ?_
          obtain rfl := Option.some.inj h
          exact g_iret rfl d_Md_operation_303
        replace h := it_f hc179_294 h
        by_cases hc179_304 : o1 = 9
        · replace h := it_t hc179_304 h
          refine g_lookup (off := 125) (tgt := 304) d_Md_operation_179 (by decide) (by rw [hc179_304]; decide +kernel) (by decide) ?_
          refine g_aload_n d_Md_operation_304 rfl ?_
          refine g_aload_n d_Md_operation_305 rfl ?_
          refine g_iconst (v := 1) d_Md_operation_306 (by decide) ?_
          obtain ⟨q307, hq307, h⟩ := it_b h
          refine g_callV (ci := 11) (q := (xR_Md, xF_Md, 32)) (As := [.int 1]) (rest := [.ref a_t]) (st2 := [.int q307.1, .ref a_t]) (ws2 := [(a_t, .inr (11, [.int t_thrown, .ref a_m_bytes, .int t_size, .int t_entries, .ref a_m_begins, .ref a_m_isCommon, .ref a_m_common, .ref a_m_code, .ref a_m_data, .ref a_m_back, .ref a_m_first, .ref a_m_range, .ref a_m_from, .ref a_m_to, .int q307.2.1, .int t_limit, .int q307.2.2, .ref a_m_row, .ref a_m_commonRow, .ref a_m_kept, .int t_keptRows, .int t_place, .ref a_m_stack, .int t_height, .int t_reckoned, .int t_value, .ref a_m_memory, .ref a_m_registers, .int t_known, .int t_pc, .int t_unwound, .ref a_m_next])), (a_m_bytes, .inl (K 1, 512, .inl m_bytes)), (a_m_stack, .inl (K 1, 16, .inl m_stack)), (a_m_memory, .inl (K 1, 256, .inl m_memory)), (a_m_registers, .inl (K 1, 8, .inl m_registers))]) (c_Md_signed l D K a_t a_m_bytes a_m_begins a_m_isCommon a_m_common a_m_code a_m_data a_m_back a_m_first a_m_range a_m_from a_m_to a_m_row a_m_commonRow a_m_kept a_m_stack a_m_memory a_m_registers a_m_next t_thrown t_size t_entries t_at t_limit t_bad t_keptRows t_place t_height t_reckoned t_value t_known t_pc t_unwound m_bytes 1 q307 hq307) (cs_Md_184 rfl rfl ⟨Nat.le_of_ble_eq_true rfl, Nat.le_of_ble_eq_true rfl⟩) rfl 0 rfl (gOver.mk2 [0, 1] [some 0, some 1, none, none, none] (by decide) (by decide) rfl rfl rfl) (Nat.le_of_ble_eq_true rfl) ⟨Nat.le_of_ble_eq_true rfl, Nat.le_of_ble_eq_true rfl⟩ d_Md_operation_307 rfl rfl ?_
          obtain ⟨q310, hq310, h⟩ := it_b h
          refine g_callV (ci := 11) (q := (xR_Md, xF_Md, 32)) (As := [.int q307.1]) (rest := []) (st2 := [.int q310.1]) (ws2 := [(a_t, .inr (11, [.int t_thrown, .ref a_m_bytes, .int t_size, .int t_entries, .ref a_m_begins, .ref a_m_isCommon, .ref a_m_common, .ref a_m_code, .ref a_m_data, .ref a_m_back, .ref a_m_first, .ref a_m_range, .ref a_m_from, .ref a_m_to, .int q307.2.1, .int t_limit, .int q307.2.2, .ref a_m_row, .ref a_m_commonRow, .ref a_m_kept, .int t_keptRows, .int t_place, .ref a_m_stack, .int q310.2.1, .int t_reckoned, .int t_value, .ref a_m_memory, .ref a_m_registers, .int t_known, .int t_pc, .int t_unwound, .ref a_m_next])), (a_m_bytes, .inl (K 1, 512, .inl m_bytes)), (a_m_stack, .inl (K 1, 16, .inl q310.2.2)), (a_m_memory, .inl (K 1, 256, .inl m_memory)), (a_m_registers, .inl (K 1, 8, .inl m_registers))]) (c_Md_pushed l D K a_t a_m_bytes a_m_begins a_m_isCommon a_m_common a_m_code a_m_data a_m_back a_m_first a_m_range a_m_from a_m_to a_m_row a_m_commonRow a_m_kept a_m_stack a_m_memory a_m_registers a_m_next t_thrown t_size t_entries q307.2.1 t_limit q307.2.2 t_keptRows t_place t_height t_reckoned t_value t_known t_pc t_unwound m_stack q307.1 q310 hq310) (cs_Md_181 rfl rfl ⟨Nat.le_of_ble_eq_true rfl, Nat.le_of_ble_eq_true rfl⟩) rfl 0 rfl (gOver.mk2 [0, 2] [some 0, none, some 1, none, none] (by decide) (by decide) rfl rfl rfl) (Nat.le_of_ble_eq_true rfl) ⟨Nat.le_of_ble_eq_true rfl, Nat.le_of_ble_eq_true rfl⟩ d_Md_operation_310 rfl rfl ?_
          obtain rfl := Option.some.inj h
          exact g_iret rfl d_Md_operation_313
        replace h := it_f hc179_304 h
        by_cases hc179_314 : o1 = 10
        · replace h := it_t hc179_314 h
          refine g_lookup (off := 135) (tgt := 314) d_Md_operation_179 (by decide) (by rw [hc179_314]; decide +kernel) (by decide) ?_
          refine g_aload_n d_Md_operation_314 rfl ?_
          refine g_aload_n d_Md_operation_315 rfl ?_
          refine g_iconst (v := 2) d_Md_operation_316 (by decide) ?_
          obtain ⟨q317, hq317, h⟩ := it_b h
          refine g_callV (ci := 11) (q := (xR_Md, xF_Md, 32)) (As := [.int 2]) (rest := [.ref a_t]) (st2 := [.int q317.1, .ref a_t]) (ws2 := [(a_t, .inr (11, [.int t_thrown, .ref a_m_bytes, .int t_size, .int t_entries, .ref a_m_begins, .ref a_m_isCommon, .ref a_m_common, .ref a_m_code, .ref a_m_data, .ref a_m_back, .ref a_m_first, .ref a_m_range, .ref a_m_from, .ref a_m_to, .int q317.2.1, .int t_limit, .int q317.2.2, .ref a_m_row, .ref a_m_commonRow, .ref a_m_kept, .int t_keptRows, .int t_place, .ref a_m_stack, .int t_height, .int t_reckoned, .int t_value, .ref a_m_memory, .ref a_m_registers, .int t_known, .int t_pc, .int t_unwound, .ref a_m_next])), (a_m_bytes, .inl (K 1, 512, .inl m_bytes)), (a_m_stack, .inl (K 1, 16, .inl m_stack)), (a_m_memory, .inl (K 1, 256, .inl m_memory)), (a_m_registers, .inl (K 1, 8, .inl m_registers))]) (c_Md_unsigned l D K a_t a_m_bytes a_m_begins a_m_isCommon a_m_common a_m_code a_m_data a_m_back a_m_first a_m_range a_m_from a_m_to a_m_row a_m_commonRow a_m_kept a_m_stack a_m_memory a_m_registers a_m_next t_thrown t_size t_entries t_at t_limit t_bad t_keptRows t_place t_height t_reckoned t_value t_known t_pc t_unwound m_bytes 2 q317 hq317) (cs_Md_89 rfl rfl ⟨Nat.le_of_ble_eq_true rfl, Nat.le_of_ble_eq_true rfl⟩) rfl 0 rfl (gOver.mk2 [0, 1] [some 0, some 1, none, none, none] (by decide) (by decide) rfl rfl rfl) (Nat.le_of_ble_eq_true rfl) ⟨Nat.le_of_ble_eq_true rfl, Nat.le_of_ble_eq_true rfl⟩ d_Md_operation_317 rfl rfl ?_
          obtain ⟨q320, hq320, h⟩ := it_b h
          refine g_callV (ci := 11) (q := (xR_Md, xF_Md, 32)) (As := [.int q317.1]) (rest := []) (st2 := [.int q320.1]) (ws2 := [(a_t, .inr (11, [.int t_thrown, .ref a_m_bytes, .int t_size, .int t_entries, .ref a_m_begins, .ref a_m_isCommon, .ref a_m_common, .ref a_m_code, .ref a_m_data, .ref a_m_back, .ref a_m_first, .ref a_m_range, .ref a_m_from, .ref a_m_to, .int q317.2.1, .int t_limit, .int q317.2.2, .ref a_m_row, .ref a_m_commonRow, .ref a_m_kept, .int t_keptRows, .int t_place, .ref a_m_stack, .int q320.2.1, .int t_reckoned, .int t_value, .ref a_m_memory, .ref a_m_registers, .int t_known, .int t_pc, .int t_unwound, .ref a_m_next])), (a_m_bytes, .inl (K 1, 512, .inl m_bytes)), (a_m_stack, .inl (K 1, 16, .inl q320.2.2)), (a_m_memory, .inl (K 1, 256, .inl m_memory)), (a_m_registers, .inl (K 1, 8, .inl m_registers))]) (c_Md_pushed l D K a_t a_m_bytes a_m_begins a_m_isCommon a_m_common a_m_code a_m_data a_m_back a_m_first a_m_range a_m_from a_m_to a_m_row a_m_commonRow a_m_kept a_m_stack a_m_memory a_m_registers a_m_next t_thrown t_size t_entries q317.2.1 t_limit q317.2.2 t_keptRows t_place t_height t_reckoned t_value t_known t_pc t_unwound m_stack q317.1 q320 hq320) (cs_Md_181 rfl rfl ⟨Nat.le_of_ble_eq_true rfl, Nat.le_of_ble_eq_true rfl⟩) rfl 0 rfl (gOver.mk2 [0, 2] [some 0, none, some 1, none, none] (by decide) (by decide) rfl rfl rfl) (Nat.le_of_ble_eq_true rfl) ⟨Nat.le_of_ble_eq_true rfl, Nat.le_of_ble_eq_true rfl⟩ d_Md_operation_320 rfl rfl ?_
          obtain rfl := Option.some.inj h
          exact g_iret rfl d_Md_operation_323
        replace h := it_f hc179_314 h
        by_cases hc179_324 : o1 = 11
        · replace h := it_t hc179_324 h
          refine g_lookup (off := 145) (tgt := 324) d_Md_operation_179 (by decide) (by rw [hc179_324]; decide +kernel) (by decide) ?_
          refine g_aload_n d_Md_operation_324 rfl ?_
          refine g_aload_n d_Md_operation_325 rfl ?_
          refine g_iconst (v := 2) d_Md_operation_326 (by decide) ?_
          obtain ⟨q327, hq327, h⟩ := it_b h
          refine g_callV (ci := 11) (q := (xR_Md, xF_Md, 32)) (As := [.int 2]) (rest := [.ref a_t]) (st2 := [.int q327.1, .ref a_t]) (ws2 := [(a_t, .inr (11, [.int t_thrown, .ref a_m_bytes, .int t_size, .int t_entries, .ref a_m_begins, .ref a_m_isCommon, .ref a_m_common, .ref a_m_code, .ref a_m_data, .ref a_m_back, .ref a_m_first, .ref a_m_range, .ref a_m_from, .ref a_m_to, .int q327.2.1, .int t_limit, .int q327.2.2, .ref a_m_row, .ref a_m_commonRow, .ref a_m_kept, .int t_keptRows, .int t_place, .ref a_m_stack, .int t_height, .int t_reckoned, .int t_value, .ref a_m_memory, .ref a_m_registers, .int t_known, .int t_pc, .int t_unwound, .ref a_m_next])), (a_m_bytes, .inl (K 1, 512, .inl m_bytes)), (a_m_stack, .inl (K 1, 16, .inl m_stack)), (a_m_memory, .inl (K 1, 256, .inl m_memory)), (a_m_registers, .inl (K 1, 8, .inl m_registers))]) (c_Md_signed l D K a_t a_m_bytes a_m_begins a_m_isCommon a_m_common a_m_code a_m_data a_m_back a_m_first a_m_range a_m_from a_m_to a_m_row a_m_commonRow a_m_kept a_m_stack a_m_memory a_m_registers a_m_next t_thrown t_size t_entries t_at t_limit t_bad t_keptRows t_place t_height t_reckoned t_value t_known t_pc t_unwound m_bytes 2 q327 hq327) (cs_Md_184 rfl rfl ⟨Nat.le_of_ble_eq_true rfl, Nat.le_of_ble_eq_true rfl⟩) rfl 0 rfl (gOver.mk2 [0, 1] [some 0, some 1, none, none, none] (by decide) (by decide) rfl rfl rfl) (Nat.le_of_ble_eq_true rfl) ⟨Nat.le_of_ble_eq_true rfl, Nat.le_of_ble_eq_true rfl⟩ d_Md_operation_327 rfl rfl ?_
          obtain ⟨q330, hq330, h⟩ := it_b h
          refine g_callV (ci := 11) (q := (xR_Md, xF_Md, 32)) (As := [.int q327.1]) (rest := []) (st2 := [.int q330.1]) (ws2 := [(a_t, .inr (11, [.int t_thrown, .ref a_m_bytes, .int t_size, .int t_entries, .ref a_m_begins, .ref a_m_isCommon, .ref a_m_common, .ref a_m_code, .ref a_m_data, .ref a_m_back, .ref a_m_first, .ref a_m_range, .ref a_m_from, .ref a_m_to, .int q327.2.1, .int t_limit, .int q327.2.2, .ref a_m_row, .ref a_m_commonRow, .ref a_m_kept, .int t_keptRows, .int t_place, .ref a_m_stack, .int q330.2.1, .int t_reckoned, .int t_value, .ref a_m_memory, .ref a_m_registers, .int t_known, .int t_pc, .int t_unwound, .ref a_m_next])), (a_m_bytes, .inl (K 1, 512, .inl m_bytes)), (a_m_stack, .inl (K 1, 16, .inl q330.2.2)), (a_m_memory, .inl (K 1, 256, .inl m_memory)), (a_m_registers, .inl (K 1, 8, .inl m_registers))]) (c_Md_pushed l D K a_t a_m_bytes a_m_begins a_m_isCommon a_m_common a_m_code a_m_data a_m_back a_m_first a_m_range a_m_from a_m_to a_m_row a_m_commonRow a_m_kept a_m_stack a_m_memory a_m_registers a_m_next t_thrown t_size t_entries q327.2.1 t_limit q327.2.2 t_keptRows t_place t_height t_reckoned t_value t_known t_pc t_unwound m_stack q327.1 q330 hq330) (cs_Md_181 rfl rfl ⟨Nat.le_of_ble_eq_true rfl, Nat.le_of_ble_eq_true rfl⟩) rfl 0 rfl (gOver.mk2 [0, 2] [some 0, none, some 1, none, none] (by decide) (by decide) rfl rfl rfl) (Nat.le_of_ble_eq_true rfl) ⟨Nat.le_of_ble_eq_true rfl, Nat.le_of_ble_eq_true rfl⟩ d_Md_operation_330 rfl rfl ?_
          obtain rfl := Option.some.inj h
          exact g_iret rfl d_Md_operation_333
        replace h := it_f hc179_324 h
        by_cases hc179_334 : o1 = 16
        · replace h := it_t hc179_334 h
          refine g_lookup (off := 155) (tgt := 334) d_Md_operation_179 (by decide) (by rw [hc179_334]; decide +kernel) (by decide) ?_
          refine g_aload_n d_Md_operation_334 rfl ?_
          refine g_aload_n d_Md_operation_335 rfl ?_
          refine g_iconst (v := 0) d_Md_operation_336 (by decide) ?_
          obtain ⟨q337, hq337, h⟩ := it_b h
          refine g_callV (ci := 11) (q := (xR_Md, xF_Md, 32)) (As := [.int 0]) (rest := [.ref a_t]) (st2 := [.int q337.1, .ref a_t]) (ws2 := [(a_t, .inr (11, [.int t_thrown, .ref a_m_bytes, .int t_size, .int t_entries, .ref a_m_begins, .ref a_m_isCommon, .ref a_m_common, .ref a_m_code, .ref a_m_data, .ref a_m_back, .ref a_m_first, .ref a_m_range, .ref a_m_from, .ref a_m_to, .int q337.2.1, .int t_limit, .int q337.2.2, .ref a_m_row, .ref a_m_commonRow, .ref a_m_kept, .int t_keptRows, .int t_place, .ref a_m_stack, .int t_height, .int t_reckoned, .int t_value, .ref a_m_memory, .ref a_m_registers, .int t_known, .int t_pc, .int t_unwound, .ref a_m_next])), (a_m_bytes, .inl (K 1, 512, .inl m_bytes)), (a_m_stack, .inl (K 1, 16, .inl m_stack)), (a_m_memory, .inl (K 1, 256, .inl m_memory)), (a_m_registers, .inl (K 1, 8, .inl m_registers))]) (c_Md_leb l D K a_t a_m_bytes a_m_begins a_m_isCommon a_m_common a_m_code a_m_data a_m_back a_m_first a_m_range a_m_from a_m_to a_m_row a_m_commonRow a_m_kept a_m_stack a_m_memory a_m_registers a_m_next t_thrown t_size t_entries t_at t_limit t_bad t_keptRows t_place t_height t_reckoned t_value t_known t_pc t_unwound m_bytes 0 q337 hq337) (cs_Md_97 rfl rfl ⟨Nat.le_of_ble_eq_true rfl, Nat.le_of_ble_eq_true rfl⟩) rfl 0 rfl (gOver.mk2 [0, 1] [some 0, some 1, none, none, none] (by decide) (by decide) rfl rfl rfl) (Nat.le_of_ble_eq_true rfl) ⟨Nat.le_of_ble_eq_true rfl, Nat.le_of_ble_eq_true rfl⟩ d_Md_operation_337 rfl rfl ?_
          obtain ⟨q340, hq340, h⟩ := it_b h
          refine g_callV (ci := 11) (q := (xR_Md, xF_Md, 32)) (As := [.int q337.1]) (rest := []) (st2 := [.int q340.1]) (ws2 := [(a_t, .inr (11, [.int t_thrown, .ref a_m_bytes, .int t_size, .int t_entries, .ref a_m_begins, .ref a_m_isCommon, .ref a_m_common, .ref a_m_code, .ref a_m_data, .ref a_m_back, .ref a_m_first, .ref a_m_range, .ref a_m_from, .ref a_m_to, .int q337.2.1, .int t_limit, .int q337.2.2, .ref a_m_row, .ref a_m_commonRow, .ref a_m_kept, .int t_keptRows, .int t_place, .ref a_m_stack, .int q340.2.1, .int t_reckoned, .int t_value, .ref a_m_memory, .ref a_m_registers, .int t_known, .int t_pc, .int t_unwound, .ref a_m_next])), (a_m_bytes, .inl (K 1, 512, .inl m_bytes)), (a_m_stack, .inl (K 1, 16, .inl q340.2.2)), (a_m_memory, .inl (K 1, 256, .inl m_memory)), (a_m_registers, .inl (K 1, 8, .inl m_registers))]) (c_Md_pushed l D K a_t a_m_bytes a_m_begins a_m_isCommon a_m_common a_m_code a_m_data a_m_back a_m_first a_m_range a_m_from a_m_to a_m_row a_m_commonRow a_m_kept a_m_stack a_m_memory a_m_registers a_m_next t_thrown t_size t_entries q337.2.1 t_limit q337.2.2 t_keptRows t_place t_height t_reckoned t_value t_known t_pc t_unwound m_stack q337.1 q340 hq340) (cs_Md_181 rfl rfl ⟨Nat.le_of_ble_eq_true rfl, Nat.le_of_ble_eq_true rfl⟩) rfl 0 rfl (gOver.mk2 [0, 2] [some 0, none, some 1, none, none] (by decide) (by decide) rfl rfl rfl) (Nat.le_of_ble_eq_true rfl) ⟨Nat.le_of_ble_eq_true rfl, Nat.le_of_ble_eq_true rfl⟩ d_Md_operation_340 rfl rfl ?_
          obtain rfl := Option.some.inj h
          exact g_iret rfl d_Md_operation_343
        replace h := it_f hc179_334 h
        by_cases hc179_344 : o1 = 17
        · replace h := it_t hc179_344 h
          refine g_lookup (off := 165) (tgt := 344) d_Md_operation_179 (by decide) (by rw [hc179_344]; decide +kernel) (by decide) ?_
          refine g_aload_n d_Md_operation_344 rfl ?_
          refine g_aload_n d_Md_operation_345 rfl ?_
          refine g_iconst (v := 1) d_Md_operation_346 (by decide) ?_
          obtain ⟨q347, hq347, h⟩ := it_b h
          refine g_callV (ci := 11) (q := (xR_Md, xF_Md, 32)) (As := [.int 1]) (rest := [.ref a_t]) (st2 := [.int q347.1, .ref a_t]) (ws2 := [(a_t, .inr (11, [.int t_thrown, .ref a_m_bytes, .int t_size, .int t_entries, .ref a_m_begins, .ref a_m_isCommon, .ref a_m_common, .ref a_m_code, .ref a_m_data, .ref a_m_back, .ref a_m_first, .ref a_m_range, .ref a_m_from, .ref a_m_to, .int q347.2.1, .int t_limit, .int q347.2.2, .ref a_m_row, .ref a_m_commonRow, .ref a_m_kept, .int t_keptRows, .int t_place, .ref a_m_stack, .int t_height, .int t_reckoned, .int t_value, .ref a_m_memory, .ref a_m_registers, .int t_known, .int t_pc, .int t_unwound, .ref a_m_next])), (a_m_bytes, .inl (K 1, 512, .inl m_bytes)), (a_m_stack, .inl (K 1, 16, .inl m_stack)), (a_m_memory, .inl (K 1, 256, .inl m_memory)), (a_m_registers, .inl (K 1, 8, .inl m_registers))]) (c_Md_leb l D K a_t a_m_bytes a_m_begins a_m_isCommon a_m_common a_m_code a_m_data a_m_back a_m_first a_m_range a_m_from a_m_to a_m_row a_m_commonRow a_m_kept a_m_stack a_m_memory a_m_registers a_m_next t_thrown t_size t_entries t_at t_limit t_bad t_keptRows t_place t_height t_reckoned t_value t_known t_pc t_unwound m_bytes 1 q347 hq347) (cs_Md_97 rfl rfl ⟨Nat.le_of_ble_eq_true rfl, Nat.le_of_ble_eq_true rfl⟩) rfl 0 rfl (gOver.mk2 [0, 1] [some 0, some 1, none, none, none] (by decide) (by decide) rfl rfl rfl) (Nat.le_of_ble_eq_true rfl) ⟨Nat.le_of_ble_eq_true rfl, Nat.le_of_ble_eq_true rfl⟩ d_Md_operation_347 rfl rfl ?_
          obtain ⟨q350, hq350, h⟩ := it_b h
          refine g_callV (ci := 11) (q := (xR_Md, xF_Md, 32)) (As := [.int q347.1]) (rest := []) (st2 := [.int q350.1]) (ws2 := [(a_t, .inr (11, [.int t_thrown, .ref a_m_bytes, .int t_size, .int t_entries, .ref a_m_begins, .ref a_m_isCommon, .ref a_m_common, .ref a_m_code, .ref a_m_data, .ref a_m_back, .ref a_m_first, .ref a_m_range, .ref a_m_from, .ref a_m_to, .int q347.2.1, .int t_limit, .int q347.2.2, .ref a_m_row, .ref a_m_commonRow, .ref a_m_kept, .int t_keptRows, .int t_place, .ref a_m_stack, .int q350.2.1, .int t_reckoned, .int t_value, .ref a_m_memory, .ref a_m_registers, .int t_known, .int t_pc, .int t_unwound, .ref a_m_next])), (a_m_bytes, .inl (K 1, 512, .inl m_bytes)), (a_m_stack, .inl (K 1, 16, .inl q350.2.2)), (a_m_memory, .inl (K 1, 256, .inl m_memory)), (a_m_registers, .inl (K 1, 8, .inl m_registers))]) (c_Md_pushed l D K a_t a_m_bytes a_m_begins a_m_isCommon a_m_common a_m_code a_m_data a_m_back a_m_first a_m_range a_m_from a_m_to a_m_row a_m_commonRow a_m_kept a_m_stack a_m_memory a_m_registers a_m_next t_thrown t_size t_entries q347.2.1 t_limit q347.2.2 t_keptRows t_place t_height t_reckoned t_value t_known t_pc t_unwound m_stack q347.1 q350 hq350) (cs_Md_181 rfl rfl ⟨Nat.le_of_ble_eq_true rfl, Nat.le_of_ble_eq_true rfl⟩) rfl 0 rfl (gOver.mk2 [0, 2] [some 0, none, some 1, none, none] (by decide) (by decide) rfl rfl rfl) (Nat.le_of_ble_eq_true rfl) ⟨Nat.le_of_ble_eq_true rfl, Nat.le_of_ble_eq_true rfl⟩ d_Md_operation_350 rfl rfl ?_
          obtain rfl := Option.some.inj h
          exact g_iret rfl d_Md_operation_353
        replace h := it_f hc179_344 h
        by_cases hc179_354 : o1 = 40 ∨ o1 = 47
        · replace h := it_t hc179_354 h
          refine g_lookup (off := 175) (tgt := 354) d_Md_operation_179 (by decide) (by rcases hc179_354 with hc | hc <;> (rw [hc]; decide +kernel)) (by decide) ?_
          refine g_aload_n d_Md_operation_354 rfl ?_
          refine g_iload_n d_Md_operation_355 rfl ?_
          refine g_iload_n d_Md_operation_356 rfl ?_
          obtain ⟨q357, hq357, h⟩ := it_b h
          refine g_callV (ci := 11) (q := (xR_Md, xF_Md, 32)) (As := [.int o1, .int b1]) (rest := []) (st2 := [.int q357.1]) (ws2 := [(a_t, .inr (11, [.int t_thrown, .ref a_m_bytes, .int t_size, .int t_entries, .ref a_m_begins, .ref a_m_isCommon, .ref a_m_common, .ref a_m_code, .ref a_m_data, .ref a_m_back, .ref a_m_first, .ref a_m_range, .ref a_m_from, .ref a_m_to, .int q357.2.1, .int t_limit, .int q357.2.2.1, .ref a_m_row, .ref a_m_commonRow, .ref a_m_kept, .int t_keptRows, .int t_place, .ref a_m_stack, .int q357.2.2.2, .int t_reckoned, .int t_value, .ref a_m_memory, .ref a_m_registers, .int t_known, .int t_pc, .int t_unwound, .ref a_m_next])), (a_m_bytes, .inl (K 1, 512, .inl m_bytes)), (a_m_stack, .inl (K 1, 16, .inl m_stack)), (a_m_memory, .inl (K 1, 256, .inl m_memory)), (a_m_registers, .inl (K 1, 8, .inl m_registers))]) (c_Md_jump l D K a_t a_m_bytes a_m_begins a_m_isCommon a_m_common a_m_code a_m_data a_m_back a_m_first a_m_range a_m_from a_m_to a_m_row a_m_commonRow a_m_kept a_m_stack a_m_memory a_m_registers a_m_next t_thrown t_size t_entries t_at t_limit t_bad t_keptRows t_place t_height t_reckoned t_value t_known t_pc t_unwound m_bytes m_stack o1 b1 q357 hq357) (cs_Md_187 rfl rfl ⟨Nat.le_of_ble_eq_true rfl, Nat.le_of_ble_eq_true rfl⟩) rfl 0 rfl (gOver.mk2 [0, 1, 2] [some 0, some 1, some 2, none, none] (by decide) (by decide) rfl rfl rfl) (Nat.le_of_ble_eq_true rfl) ⟨Nat.le_of_ble_eq_true rfl, Nat.le_of_ble_eq_true rfl⟩ d_Md_operation_357 rfl rfl ?_
          obtain rfl := Option.some.inj h
          exact g_iret rfl d_Md_operation_360
        replace h := it_f hc179_354 h
        by_cases hc179_361 : o1 = 150
        · replace h := it_t hc179_361 h
          refine g_lookup (off := 182) (tgt := 361) d_Md_operation_179 (by decide) (by rw [hc179_361]; decide +kernel) (by decide) ?_
          refine g_iconst (v := 0) d_Md_operation_361 (by decide) ?_
          obtain rfl := Option.some.inj h
          exact g_iret rfl d_Md_operation_362
        replace h := it_f hc179_361 h
        by_cases hc179_363 : o1 = 156
        · replace h := it_t hc179_363 h
          refine g_lookup (off := 184) (tgt := 363) d_Md_operation_179 (by decide) (by rw [hc179_363]; decide +kernel) (by decide) ?_
          refine g_iload_n d_Md_operation_363 rfl ?_
          refine g_if_eq (tgt := 376) d_Md_operation_364 (by decide) (fun hc => ?_) (fun hc => ?_)
          · replace h := it_t hc h
            refine g_iconst (v := 2) d_Md_operation_376 (by decide) ?_
            obtain rfl := Option.some.inj h
            exact g_iret rfl d_Md_operation_377
          · replace h := it_f hc h
            refine g_aload_n d_Md_operation_367 rfl ?_
            refine g_iload d_Md_operation_368 rfl ?_
            obtain ⟨q370, hq370, h⟩ := it_b h
            refine g_callV (ci := 11) (q := (xR_Md, xF_Md, 32)) (As := [.int c1]) (rest := []) (st2 := [.int q370.1]) (ws2 := [(a_t, .inr (11, [.int t_thrown, .ref a_m_bytes, .int t_size, .int t_entries, .ref a_m_begins, .ref a_m_isCommon, .ref a_m_common, .ref a_m_code, .ref a_m_data, .ref a_m_back, .ref a_m_first, .ref a_m_range, .ref a_m_from, .ref a_m_to, .int t_at, .int t_limit, .int t_bad, .ref a_m_row, .ref a_m_commonRow, .ref a_m_kept, .int t_keptRows, .int t_place, .ref a_m_stack, .int q370.2.1, .int t_reckoned, .int t_value, .ref a_m_memory, .ref a_m_registers, .int t_known, .int t_pc, .int t_unwound, .ref a_m_next])), (a_m_bytes, .inl (K 1, 512, .inl m_bytes)), (a_m_stack, .inl (K 1, 16, .inl q370.2.2)), (a_m_memory, .inl (K 1, 256, .inl m_memory)), (a_m_registers, .inl (K 1, 8, .inl m_registers))]) (c_Md_pushed l D K a_t a_m_bytes a_m_begins a_m_isCommon a_m_common a_m_code a_m_data a_m_back a_m_first a_m_range a_m_from a_m_to a_m_row a_m_commonRow a_m_kept a_m_stack a_m_memory a_m_registers a_m_next t_thrown t_size t_entries t_at t_limit t_bad t_keptRows t_place t_height t_reckoned t_value t_known t_pc t_unwound m_stack c1 q370 hq370) (cs_Md_181 rfl rfl ⟨Nat.le_of_ble_eq_true rfl, Nat.le_of_ble_eq_true rfl⟩) rfl 0 rfl (gOver.mk2 [0, 2] [some 0, none, some 1, none, none] (by decide) (by decide) rfl rfl rfl) (Nat.le_of_ble_eq_true rfl) ⟨Nat.le_of_ble_eq_true rfl, Nat.le_of_ble_eq_true rfl⟩ d_Md_operation_370 rfl rfl ?_
            refine g_goto (tgt := 377) d_Md_operation_373 (by decide) ?_
            obtain rfl := Option.some.inj h
            exact g_iret rfl d_Md_operation_377
        replace h := it_f hc179_363 h
        refine g_lookup (off := 199) (tgt := 378) d_Md_operation_179 (by decide) (by show Op.lookupswitch.offset _ _ _ = _; rw [lv_osw (fun z => hc179_284 (Or.inl z)) (by decide), lv_osw hc179_294 (by decide), lv_osw hc179_304 (by decide), lv_osw hc179_314 (by decide), lv_osw hc179_324 (by decide), lv_osw (fun z => hc179_284 (Or.inr z)) (by decide), lv_osw hc179_334 (by decide), lv_osw hc179_344 (by decide), lv_osw (fun z => hc179_354 (Or.inl z)) (by decide), lv_osw (fun z => hc179_354 (Or.inr z)) (by decide), lv_osw hc179_361 (by decide), lv_osw hc179_363 (by decide)]; rfl) (by decide) ?_
        refine g_aload_n d_Md_operation_378 rfl ?_
        refine g_iload_n d_Md_operation_379 rfl ?_
        obtain ⟨q380, hq380, h⟩ := it_b h
        refine g_callV (ci := 11) (q := (xR_Md, xF_Md, 32)) (As := [.int o1]) (rest := []) (st2 := [.int q380.1]) (ws2 := [(a_t, .inr (11, [.int t_thrown, .ref a_m_bytes, .int t_size, .int t_entries, .ref a_m_begins, .ref a_m_isCommon, .ref a_m_common, .ref a_m_code, .ref a_m_data, .ref a_m_back, .ref a_m_first, .ref a_m_range, .ref a_m_from, .ref a_m_to, .int q380.2.1, .int t_limit, .int q380.2.2.1, .ref a_m_row, .ref a_m_commonRow, .ref a_m_kept, .int t_keptRows, .int t_place, .ref a_m_stack, .int q380.2.2.2.1, .int t_reckoned, .int t_value, .ref a_m_memory, .ref a_m_registers, .int t_known, .int t_pc, .int t_unwound, .ref a_m_next])), (a_m_bytes, .inl (K 1, 512, .inl m_bytes)), (a_m_stack, .inl (K 1, 16, .inl q380.2.2.2.2)), (a_m_memory, .inl (K 1, 256, .inl m_memory)), (a_m_registers, .inl (K 1, 8, .inl m_registers))]) (c_Md_rearrange l D K a_t a_m_bytes a_m_begins a_m_isCommon a_m_common a_m_code a_m_data a_m_back a_m_first a_m_range a_m_from a_m_to a_m_row a_m_commonRow a_m_kept a_m_stack a_m_memory a_m_registers a_m_next t_thrown t_size t_entries t_at t_limit t_bad t_keptRows t_place t_height t_reckoned t_value t_known t_pc t_unwound m_bytes m_stack m_memory o1 q380 hq380) (cs_Md_191 rfl rfl ⟨Nat.le_of_ble_eq_true rfl, Nat.le_of_ble_eq_true rfl⟩) rfl 0 rfl (gOver.mk2 [0, 1, 2, 3] [some 0, some 1, some 2, some 3, none] (by decide) (by decide) rfl rfl rfl) (Nat.le_of_ble_eq_true rfl) ⟨Nat.le_of_ble_eq_true rfl, Nat.le_of_ble_eq_true rfl⟩ d_Md_operation_380 rfl rfl ?_
        obtain rfl := Option.some.inj h
        exact g_iret rfl d_Md_operation_383
      · replace h := it_f hc h
        refine g_aload_n d_Md_operation_120 rfl ?_
        refine g_iconst (v := 1) d_Md_operation_121 (by decide) ?_
        obtain ⟨q122, hq122, h⟩ := it_b h
        refine g_callV (ci := 11) (q := (xR_Md, xF_Md, 32)) (As := [.int 1]) (rest := []) (st2 := [.int q122.1]) (ws2 := [(a_t, .inr (11, [.int t_thrown, .ref a_m_bytes, .int t_size, .int t_entries, .ref a_m_begins, .ref a_m_isCommon, .ref a_m_common, .ref a_m_code, .ref a_m_data, .ref a_m_back, .ref a_m_first, .ref a_m_range, .ref a_m_from, .ref a_m_to, .int q122.2.1, .int t_limit, .int q122.2.2, .ref a_m_row, .ref a_m_commonRow, .ref a_m_kept, .int t_keptRows, .int t_place, .ref a_m_stack, .int t_height, .int t_reckoned, .int t_value, .ref a_m_memory, .ref a_m_registers, .int t_known, .int t_pc, .int t_unwound, .ref a_m_next])), (a_m_bytes, .inl (K 1, 512, .inl m_bytes)), (a_m_stack, .inl (K 1, 16, .inl m_stack)), (a_m_memory, .inl (K 1, 256, .inl m_memory)), (a_m_registers, .inl (K 1, 8, .inl m_registers))]) (c_Md_leb l D K a_t a_m_bytes a_m_begins a_m_isCommon a_m_common a_m_code a_m_data a_m_back a_m_first a_m_range a_m_from a_m_to a_m_row a_m_commonRow a_m_kept a_m_stack a_m_memory a_m_registers a_m_next t_thrown t_size t_entries t_at t_limit t_bad t_keptRows t_place t_height t_reckoned t_value t_known t_pc t_unwound m_bytes 1 q122 hq122) (cs_Md_97 rfl rfl ⟨Nat.le_of_ble_eq_true rfl, Nat.le_of_ble_eq_true rfl⟩) rfl 0 rfl (gOver.mk2 [0, 1] [some 0, some 1, none, none, none] (by decide) (by decide) rfl rfl rfl) (Nat.le_of_ble_eq_true rfl) ⟨Nat.le_of_ble_eq_true rfl, Nat.le_of_ble_eq_true rfl⟩ d_Md_operation_122 rfl rfl ?_
        refine g_istore (L' := [(5, .int q122.1), (0, .ref a_t), (1, .int o1), (2, .int b1), (3, .int h1), (4, .int c1)]) d_Md_operation_125 (by decide) rfl ?_
        refine g_iload_n d_Md_operation_127 rfl ?_
        refine g_bipush (v := 112) d_Md_operation_128 (by decide) ?_
        refine g_isub d_Md_operation_130 ?_
        refine g_istore (L' := [(6, .int (o1 - 112)), (5, .int q122.1), (0, .ref a_t), (1, .int o1), (2, .int b1), (3, .int h1), (4, .int c1)]) d_Md_operation_131 (by decide) rfl ?_
        refine g_aload_n d_Md_operation_133 rfl ?_
        refine g_aload_n d_Md_operation_134 rfl ?_
        refine gf_Md_59 0 rfl (v := .ref a_m_registers) rfl d_Md_operation_135 ?_
        refine g_iload d_Md_operation_138 rfl ?_
        obtain ⟨hi140, h⟩ := it_in h
        refine g_iald 4 1 d_Md_operation_140 rfl rfl hi140 ?_
        refine g_iload d_Md_operation_141 rfl ?_
        refine g_iadd d_Md_operation_143 ?_
        obtain ⟨q144, hq144, h⟩ := it_b h
        refine g_callV (ci := 11) (q := (xR_Md, xF_Md, 32)) (As := [.int ((m_registers (o1 - 112).toNatClampNeg) + q122.1)]) (rest := []) (st2 := [.int q144.1]) (ws2 := [(a_t, .inr (11, [.int t_thrown, .ref a_m_bytes, .int t_size, .int t_entries, .ref a_m_begins, .ref a_m_isCommon, .ref a_m_common, .ref a_m_code, .ref a_m_data, .ref a_m_back, .ref a_m_first, .ref a_m_range, .ref a_m_from, .ref a_m_to, .int q122.2.1, .int t_limit, .int q122.2.2, .ref a_m_row, .ref a_m_commonRow, .ref a_m_kept, .int t_keptRows, .int t_place, .ref a_m_stack, .int q144.2.1, .int t_reckoned, .int t_value, .ref a_m_memory, .ref a_m_registers, .int t_known, .int t_pc, .int t_unwound, .ref a_m_next])), (a_m_bytes, .inl (K 1, 512, .inl m_bytes)), (a_m_stack, .inl (K 1, 16, .inl q144.2.2)), (a_m_memory, .inl (K 1, 256, .inl m_memory)), (a_m_registers, .inl (K 1, 8, .inl m_registers))]) (c_Md_pushed l D K a_t a_m_bytes a_m_begins a_m_isCommon a_m_common a_m_code a_m_data a_m_back a_m_first a_m_range a_m_from a_m_to a_m_row a_m_commonRow a_m_kept a_m_stack a_m_memory a_m_registers a_m_next t_thrown t_size t_entries q122.2.1 t_limit q122.2.2 t_keptRows t_place t_height t_reckoned t_value t_known t_pc t_unwound m_stack ((m_registers (o1 - 112).toNatClampNeg) + q122.1) q144 hq144) (cs_Md_181 rfl rfl ⟨Nat.le_of_ble_eq_true rfl, Nat.le_of_ble_eq_true rfl⟩) rfl 0 rfl (gOver.mk2 [0, 2] [some 0, none, some 1, none, none] (by decide) (by decide) rfl rfl rfl) (Nat.le_of_ble_eq_true rfl) ⟨Nat.le_of_ble_eq_true rfl, Nat.le_of_ble_eq_true rfl⟩ d_Md_operation_144 rfl rfl ?_
        refine g_istore (L' := [(7, .int q144.1), (6, .int (o1 - 112)), (5, .int q122.1), (0, .ref a_t), (1, .int o1), (2, .int b1), (3, .int h1), (4, .int c1)]) d_Md_operation_147 (by decide) rfl ?_
        refine g_iload d_Md_operation_149 rfl ?_
        refine g_if_eq (tgt := 159) d_Md_operation_151 (by decide) (fun hc => ?_) (fun hc => ?_)
        · replace h := it_t hc h
          refine g_aload_n d_Md_operation_159 rfl ?_
          refine gf_Md_62 0 rfl (v := .int t_known) rfl d_Md_operation_160 ?_
          refine g_iload d_Md_operation_163 rfl ?_
          refine g_ishr d_Md_operation_165 ?_
          refine g_iconst (v := 1) d_Md_operation_166 (by decide) ?_
          refine g_iand d_Md_operation_167 ?_
          refine g_iconst (v := 1) d_Md_operation_168 (by decide) ?_
          refine g_icmp_ne (tgt := 176) d_Md_operation_169 (by decide) (fun hc => ?_) (fun hc => ?_)
          · replace h := it_f hc h
            refine g_iconst (v := 4) d_Md_operation_176 (by decide) ?_
            obtain rfl := Option.some.inj h
            exact g_iret rfl d_Md_operation_177
          · replace h := it_t hc h
            refine g_iconst (v := 0) d_Md_operation_172 (by decide) ?_
            refine g_goto (tgt := 177) d_Md_operation_173 (by decide) ?_
            obtain rfl := Option.some.inj h
            exact g_iret rfl d_Md_operation_177
        · replace h := it_f hc h
          refine g_iload d_Md_operation_154 rfl ?_
          refine g_goto (tgt := 177) d_Md_operation_156 (by decide) ?_
          obtain rfl := Option.some.inj h
          exact g_iret rfl d_Md_operation_177
    · replace h := it_f hc h
      refine g_aload_n d_Md_operation_100 rfl ?_
      refine g_iload_n d_Md_operation_101 rfl ?_
      refine g_bipush (v := 48) d_Md_operation_102 (by decide) ?_
      refine g_isub d_Md_operation_104 ?_
      obtain ⟨q105, hq105, h⟩ := it_b h
      refine g_callV (ci := 11) (q := (xR_Md, xF_Md, 32)) (As := [.int (o1 - 48)]) (rest := []) (st2 := [.int q105.1]) (ws2 := [(a_t, .inr (11, [.int t_thrown, .ref a_m_bytes, .int t_size, .int t_entries, .ref a_m_begins, .ref a_m_isCommon, .ref a_m_common, .ref a_m_code, .ref a_m_data, .ref a_m_back, .ref a_m_first, .ref a_m_range, .ref a_m_from, .ref a_m_to, .int t_at, .int t_limit, .int t_bad, .ref a_m_row, .ref a_m_commonRow, .ref a_m_kept, .int t_keptRows, .int t_place, .ref a_m_stack, .int q105.2.1, .int t_reckoned, .int t_value, .ref a_m_memory, .ref a_m_registers, .int t_known, .int t_pc, .int t_unwound, .ref a_m_next])), (a_m_bytes, .inl (K 1, 512, .inl m_bytes)), (a_m_stack, .inl (K 1, 16, .inl q105.2.2)), (a_m_memory, .inl (K 1, 256, .inl m_memory)), (a_m_registers, .inl (K 1, 8, .inl m_registers))]) (c_Md_pushed l D K a_t a_m_bytes a_m_begins a_m_isCommon a_m_common a_m_code a_m_data a_m_back a_m_first a_m_range a_m_from a_m_to a_m_row a_m_commonRow a_m_kept a_m_stack a_m_memory a_m_registers a_m_next t_thrown t_size t_entries t_at t_limit t_bad t_keptRows t_place t_height t_reckoned t_value t_known t_pc t_unwound m_stack (o1 - 48) q105 hq105) (cs_Md_181 rfl rfl ⟨Nat.le_of_ble_eq_true rfl, Nat.le_of_ble_eq_true rfl⟩) rfl 0 rfl (gOver.mk2 [0, 2] [some 0, none, some 1, none, none] (by decide) (by decide) rfl rfl rfl) (Nat.le_of_ble_eq_true rfl) ⟨Nat.le_of_ble_eq_true rfl, Nat.le_of_ble_eq_true rfl⟩ d_Md_operation_105 rfl rfl ?_
      obtain rfl := Option.some.inj h
      exact g_iret rfl d_Md_operation_108
  · replace h := it_f hc h
    refine g_aload_n d_Md_operation_7 rfl ?_
    refine g_iconst (v := 2) d_Md_operation_8 (by decide) ?_
    obtain ⟨q9, hq9, h⟩ := it_b h
    refine g_callV (ci := 11) (q := (xR_Md, xF_Md, 32)) (As := [.int 2]) (rest := []) (st2 := [.int q9]) (ws2 := [(a_t, .inr (11, [.int t_thrown, .ref a_m_bytes, .int t_size, .int t_entries, .ref a_m_begins, .ref a_m_isCommon, .ref a_m_common, .ref a_m_code, .ref a_m_data, .ref a_m_back, .ref a_m_first, .ref a_m_range, .ref a_m_from, .ref a_m_to, .int t_at, .int t_limit, .int t_bad, .ref a_m_row, .ref a_m_commonRow, .ref a_m_kept, .int t_keptRows, .int t_place, .ref a_m_stack, .int t_height, .int t_reckoned, .int t_value, .ref a_m_memory, .ref a_m_registers, .int t_known, .int t_pc, .int t_unwound, .ref a_m_next])), (a_m_bytes, .inl (K 1, 512, .inl m_bytes)), (a_m_stack, .inl (K 1, 16, .inl m_stack)), (a_m_memory, .inl (K 1, 256, .inl m_memory)), (a_m_registers, .inl (K 1, 8, .inl m_registers))]) (c_Md_lacks l D K a_t a_m_bytes a_m_begins a_m_isCommon a_m_common a_m_code a_m_data a_m_back a_m_first a_m_range a_m_from a_m_to a_m_row a_m_commonRow a_m_kept a_m_stack a_m_memory a_m_registers a_m_next t_thrown t_size t_entries t_at t_limit t_bad t_keptRows t_place t_height t_reckoned t_value t_known t_pc t_unwound 2 q9 hq9) (cs_Md_174 rfl rfl ⟨Nat.le_of_ble_eq_true rfl, Nat.le_of_ble_eq_true rfl⟩) rfl 0 rfl (gOver.rd [0] (by decide) rfl) (Nat.le_of_ble_eq_true rfl) ⟨Nat.le_of_ble_eq_true rfl, Nat.le_of_ble_eq_true rfl⟩ d_Md_operation_9 rfl rfl ?_
    refine g_if_eq (tgt := 17) d_Md_operation_12 (by decide) (fun hc => ?_) (fun hc => ?_)
    · replace h := it_t hc h
      refine g_aload_n d_Md_operation_17 rfl ?_
      refine gf_Md_53 0 rfl (v := .ref a_m_stack) rfl d_Md_operation_18 ?_
      refine g_aload_n d_Md_operation_21 rfl ?_
      refine gf_Md_164 0 rfl (v := .int t_height) rfl d_Md_operation_22 ?_
      refine g_iconst (v := 1) d_Md_operation_25 (by decide) ?_
      refine g_isub d_Md_operation_26 ?_
      obtain ⟨hi27, h⟩ := it_in h
      refine g_iald 2 1 d_Md_operation_27 rfl rfl hi27 ?_
      refine g_istore (L' := [(5, .int (m_stack (t_height - 1).toNatClampNeg)), (0, .ref a_t), (1, .int o1), (2, .int b1), (3, .int h1), (4, .int c1)]) d_Md_operation_28 (by decide) rfl ?_
      refine g_iload d_Md_operation_30 rfl ?_
      refine g_if_ne (tgt := 49) d_Md_operation_32 (by decide) (fun hc => ?_) (fun hc => ?_)
      · replace h := it_f hc h
        refine g_lsub (L' := [(0, .ref a_t), (1, .int o1), (2, .int b1), (3, .int h1), (4, .int c1), (5, .int (m_stack (t_height - 1).toNatClampNeg))]) [1, 2, 3, 4, 5, 0] rfl ?_
        exact j_Md_operation_49 l D K a_t a_m_bytes a_m_begins a_m_isCommon a_m_common a_m_code a_m_data a_m_back a_m_first a_m_range a_m_from a_m_to a_m_row a_m_commonRow a_m_kept a_m_stack a_m_memory a_m_registers a_m_next t_thrown t_size t_entries t_at t_limit t_bad t_keptRows t_place t_height t_reckoned t_value t_known t_pc t_unwound m_bytes m_stack m_memory m_registers o1 b1 h1 c1 (m_stack (t_height - 1).toNatClampNeg) o h
      · replace h := it_t hc h
        refine g_iload_n d_Md_operation_35 rfl ?_
        refine g_bipush (v := 27) d_Md_operation_36 (by decide) ?_
        refine g_icmp_eq (tgt := 47) d_Md_operation_38 (by decide) (fun hc => ?_) (fun hc => ?_)
        · replace h := it_t hc h
          refine g_iconst (v := 5) d_Md_operation_47 (by decide) ?_
          obtain rfl := Option.some.inj h
          exact g_iret rfl d_Md_operation_48
        · replace h := it_f hc h
          refine g_iload_n d_Md_operation_41 rfl ?_
          refine g_bipush (v := 29) d_Md_operation_42 (by decide) ?_
          refine g_icmp_ne (tgt := 49) d_Md_operation_44 (by decide) (fun hc => ?_) (fun hc => ?_)
          · replace h := it_f hc h
            refine g_lsub (L' := [(0, .ref a_t), (1, .int o1), (2, .int b1), (3, .int h1), (4, .int c1), (5, .int (m_stack (t_height - 1).toNatClampNeg))]) [1, 2, 3, 4, 5, 0] rfl ?_
            exact j_Md_operation_49 l D K a_t a_m_bytes a_m_begins a_m_isCommon a_m_common a_m_code a_m_data a_m_back a_m_first a_m_range a_m_from a_m_to a_m_row a_m_commonRow a_m_kept a_m_stack a_m_memory a_m_registers a_m_next t_thrown t_size t_entries t_at t_limit t_bad t_keptRows t_place t_height t_reckoned t_value t_known t_pc t_unwound m_bytes m_stack m_memory m_registers o1 b1 h1 c1 (m_stack (t_height - 1).toNatClampNeg) o h
          · replace h := it_t hc h
            refine g_iconst (v := 5) d_Md_operation_47 (by decide) ?_
            obtain rfl := Option.some.inj h
            exact g_iret rfl d_Md_operation_48
    · replace h := it_f hc h
      refine g_iconst (v := 3) d_Md_operation_15 (by decide) ?_
      obtain rfl := Option.some.inj h
      exact g_iret rfl d_Md_operation_16
def f_Md_evaluate_18 : Nat → Int32 → Int32 → Int32 → Int32 → Int32 → Int32 → (Nat → Int32) → (Nat → Int32) → (Nat → Int32) → (Nat → Int32) → Int32 → Int32 → Int32 → Int32 → Int32 → Int32 → Option (Int32 × Int32 × Int32 × Int32 × Int32 × Int32 × (Nat → Int32))
  | 0, _, _, _, _, _, _, _, _, _, _, _, _, _, _, _, _ => none
  | n + 1, t_at, t_limit, t_bad, t_height, t_reckoned, t_known, m_bytes, m_stack, m_memory, m_registers, x1, x2, x3, x4, x5, x6 => if t_limit ≤ t_at then (if t_height = 0 then (some (3, t_at, t_limit, t_bad, t_height, t_reckoned, m_stack)) else (if (t_height - 1) < 0 ∨ 16 ≤ (t_height - 1).toNatClampNeg then none else some (0, t_at, t_limit, t_bad, t_height, m_stack (t_height - 1).toNatClampNeg, m_stack))) else (if x6 = 0 then (some (1, t_at, t_limit, t_bad, t_height, t_reckoned, m_stack)) else (((f_Md_unsigned t_at t_limit t_bad m_bytes 1).bind fun q42 => ((f_Md_operation q42.2.1 t_limit q42.2.2 t_height t_known m_bytes m_stack m_memory m_registers q42.1 x1 x4 x5).bind fun q50 => if q50.1 = 0 then (f_Md_evaluate_18 n q50.2.1 t_limit q50.2.2.1 q50.2.2.2.1 t_reckoned t_known m_bytes q50.2.2.2.2 m_memory m_registers x1 x2 x3 x4 x5 (x6 + (-1))) else (some (q50.1, q50.2.1, t_limit, q50.2.2.1, q50.2.2.2.1, t_reckoned, q50.2.2.2.2))))))
set_option maxRecDepth 100000 in
set_option maxHeartbeats 4000000 in
theorem j_Md_evaluate_18 (l : Launch) (D : va_G) (K : Nat → ClassId) (a_t a_m_bytes a_m_begins a_m_isCommon a_m_common a_m_code a_m_data a_m_back a_m_first a_m_range a_m_from a_m_to a_m_row a_m_commonRow a_m_kept a_m_stack a_m_memory a_m_registers a_m_next : Nat) {av : List Value} {w0 : va_W} (n : Nat) (t_thrown : Int32) (t_size : Int32) (t_entries : Int32) (t_at : Int32) (t_limit : Int32) (t_bad : Int32) (t_keptRows : Int32) (t_place : Int32) (t_height : Int32) (t_reckoned : Int32) (t_value : Int32) (t_known : Int32) (t_pc : Int32) (t_unwound : Int32) (m_bytes : Nat → Int32) (m_stack : Nat → Int32) (m_memory : Nat → Int32) (m_registers : Nat → Int32) (x1 : Int32) (x2 : Int32) (x3 : Int32) (x4 : Int32) (x5 : Int32) (x6 : Int32) (o : Int32 × Int32 × Int32 × Int32 × Int32 × Int32 × (Nat → Int32)) (h : f_Md_evaluate_18 n t_at t_limit t_bad t_height t_reckoned t_known m_bytes m_stack m_memory m_registers x1 x2 x3 x4 x5 x6 = some o) : Gm l y_Md_evaluate b_Md_evaluate 8 (some .int) { frames := 4, cells := 0, slots := 0, locals := 96 } D vwCl (xTy K) av w0 (CtF D vwCl av w0 (some (.int o.1)) [(a_t, .inr (11, [.int t_thrown, .ref a_m_bytes, .int t_size, .int t_entries, .ref a_m_begins, .ref a_m_isCommon, .ref a_m_common, .ref a_m_code, .ref a_m_data, .ref a_m_back, .ref a_m_first, .ref a_m_range, .ref a_m_from, .ref a_m_to, .int o.2.1, .int o.2.2.1, .int o.2.2.2.1, .ref a_m_row, .ref a_m_commonRow, .ref a_m_kept, .int t_keptRows, .int t_place, .ref a_m_stack, .int o.2.2.2.2.1, .int o.2.2.2.2.2.1, .int t_value, .ref a_m_memory, .ref a_m_registers, .int t_known, .int t_pc, .int t_unwound, .ref a_m_next])), (a_m_bytes, .inl (K 1, 512, .inl m_bytes)), (a_m_stack, .inl (K 1, 16, .inl o.2.2.2.2.2.2)), (a_m_memory, .inl (K 1, 256, .inl m_memory)), (a_m_registers, .inl (K 1, 8, .inl m_registers))]) 0 0 [(a_t, .inr (11, [.int t_thrown, .ref a_m_bytes, .int t_size, .int t_entries, .ref a_m_begins, .ref a_m_isCommon, .ref a_m_common, .ref a_m_code, .ref a_m_data, .ref a_m_back, .ref a_m_first, .ref a_m_range, .ref a_m_from, .ref a_m_to, .int t_at, .int t_limit, .int t_bad, .ref a_m_row, .ref a_m_commonRow, .ref a_m_kept, .int t_keptRows, .int t_place, .ref a_m_stack, .int t_height, .int t_reckoned, .int t_value, .ref a_m_memory, .ref a_m_registers, .int t_known, .int t_pc, .int t_unwound, .ref a_m_next])), (a_m_bytes, .inl (K 1, 512, .inl m_bytes)), (a_m_stack, .inl (K 1, 16, .inl m_stack)), (a_m_memory, .inl (K 1, 256, .inl m_memory)), (a_m_registers, .inl (K 1, 8, .inl m_registers))] [(0, .ref a_t), (1, .int x1), (2, .int x2), (3, .int x3), (4, .int x4), (5, .int x5), (6, .int x6)] 18 [] := by
  induction n generalizing t_thrown t_size t_entries t_at t_limit t_bad t_keptRows t_place t_height t_reckoned t_value t_known t_pc t_unwound m_bytes m_stack m_memory m_registers x1 x2 x3 x4 x5 x6 with
  | zero => exact absurd h (by rw [f_Md_evaluate_18]; exact fun z => nomatch z)
  | succ n ih =>
    rw [f_Md_evaluate_18] at h
    refine g_aload_n d_Md_evaluate_18 rfl ?_
    refine gf_Md_79 0 rfl (v := .int t_at) rfl d_Md_evaluate_19 ?_
    refine g_aload_n d_Md_evaluate_22 rfl ?_
    refine gf_Md_82 0 rfl (v := .int t_limit) rfl d_Md_evaluate_23 ?_
    refine g_icmp_ge (tgt := 66) d_Md_evaluate_26 (by decide) (fun hc => ?_) (fun hc => ?_)
    · replace h := it_t hc h
      refine g_aload_n d_Md_evaluate_66 rfl ?_
      refine gf_Md_164 0 rfl (v := .int t_height) rfl d_Md_evaluate_67 ?_
      refine g_if_ne (tgt := 75) d_Md_evaluate_70 (by decide) (fun hc => ?_) (fun hc => ?_)
      · replace h := it_f hc h
        refine g_aload_n d_Md_evaluate_75 rfl ?_
        refine g_aload_n d_Md_evaluate_76 rfl ?_
        refine gf_Md_53 0 rfl (v := .ref a_m_stack) rfl d_Md_evaluate_77 ?_
        refine g_aload_n d_Md_evaluate_80 rfl ?_
        refine gf_Md_164 0 rfl (v := .int t_height) rfl d_Md_evaluate_81 ?_
        refine g_iconst (v := 1) d_Md_evaluate_84 (by decide) ?_
        refine g_isub d_Md_evaluate_85 ?_
        obtain ⟨hi86, h⟩ := it_in h
        refine g_iald 2 1 d_Md_evaluate_86 rfl rfl hi86 ?_
        refine pf_Md_201 0 rfl (v := .int (m_stack (t_height - 1).toNatClampNeg)) rfl rfl (Nat.le_of_ble_eq_true rfl) (ws' := [(a_t, .inr (11, [.int t_thrown, .ref a_m_bytes, .int t_size, .int t_entries, .ref a_m_begins, .ref a_m_isCommon, .ref a_m_common, .ref a_m_code, .ref a_m_data, .ref a_m_back, .ref a_m_first, .ref a_m_range, .ref a_m_from, .ref a_m_to, .int t_at, .int t_limit, .int t_bad, .ref a_m_row, .ref a_m_commonRow, .ref a_m_kept, .int t_keptRows, .int t_place, .ref a_m_stack, .int t_height, .int (m_stack (t_height - 1).toNatClampNeg), .int t_value, .ref a_m_memory, .ref a_m_registers, .int t_known, .int t_pc, .int t_unwound, .ref a_m_next])), (a_m_bytes, .inl (K 1, 512, .inl m_bytes)), (a_m_stack, .inl (K 1, 16, .inl m_stack)), (a_m_memory, .inl (K 1, 256, .inl m_memory)), (a_m_registers, .inl (K 1, 8, .inl m_registers))]) rfl d_Md_evaluate_87 ?_
        refine g_iconst (v := 0) d_Md_evaluate_90 (by decide) ?_
        obtain rfl := Option.some.inj h
        exact g_iret rfl d_Md_evaluate_91
      · replace h := it_t hc h
        refine g_iconst (v := 3) d_Md_evaluate_73 (by decide) ?_
        obtain rfl := Option.some.inj h
        exact g_iret rfl d_Md_evaluate_74
    · replace h := it_f hc h
      refine g_iload d_Md_evaluate_29 rfl ?_
      refine g_if_ne (tgt := 36) d_Md_evaluate_31 (by decide) (fun hc => ?_) (fun hc => ?_)
      · replace h := it_f hc h
        refine g_iinc (k := 6) (v := x6 + (-1)) (L' := [(6, .int (x6 + (-1))), (0, .ref a_t), (1, .int x1), (2, .int x2), (3, .int x3), (4, .int x4), (5, .int x5)]) d_Md_evaluate_36 rfl (by first | rfl | decide) (by decide) rfl ?_
        refine g_aload_n d_Md_evaluate_39 rfl ?_
        refine g_aload_n d_Md_evaluate_40 rfl ?_
        refine g_iconst (v := 1) d_Md_evaluate_41 (by decide) ?_
        obtain ⟨q42, hq42, h⟩ := it_b h
        refine g_callV (ci := 11) (q := (xR_Md, xF_Md, 32)) (As := [.int 1]) (rest := [.ref a_t]) (st2 := [.int q42.1, .ref a_t]) (ws2 := [(a_t, .inr (11, [.int t_thrown, .ref a_m_bytes, .int t_size, .int t_entries, .ref a_m_begins, .ref a_m_isCommon, .ref a_m_common, .ref a_m_code, .ref a_m_data, .ref a_m_back, .ref a_m_first, .ref a_m_range, .ref a_m_from, .ref a_m_to, .int q42.2.1, .int t_limit, .int q42.2.2, .ref a_m_row, .ref a_m_commonRow, .ref a_m_kept, .int t_keptRows, .int t_place, .ref a_m_stack, .int t_height, .int t_reckoned, .int t_value, .ref a_m_memory, .ref a_m_registers, .int t_known, .int t_pc, .int t_unwound, .ref a_m_next])), (a_m_bytes, .inl (K 1, 512, .inl m_bytes)), (a_m_stack, .inl (K 1, 16, .inl m_stack)), (a_m_memory, .inl (K 1, 256, .inl m_memory)), (a_m_registers, .inl (K 1, 8, .inl m_registers))]) (c_Md_unsigned l D K a_t a_m_bytes a_m_begins a_m_isCommon a_m_common a_m_code a_m_data a_m_back a_m_first a_m_range a_m_from a_m_to a_m_row a_m_commonRow a_m_kept a_m_stack a_m_memory a_m_registers a_m_next t_thrown t_size t_entries t_at t_limit t_bad t_keptRows t_place t_height t_reckoned t_value t_known t_pc t_unwound m_bytes 1 q42 hq42) (cs_Md_89 rfl rfl ⟨Nat.le_of_ble_eq_true rfl, Nat.le_of_ble_eq_true rfl⟩) rfl 0 rfl (gOver.mk2 [0, 1] [some 0, some 1, none, none, none] (by decide) (by decide) rfl rfl rfl) (Nat.le_of_ble_eq_true rfl) ⟨Nat.le_of_ble_eq_true rfl, Nat.le_of_ble_eq_true rfl⟩ d_Md_evaluate_42 rfl rfl ?_
        refine g_iload_n d_Md_evaluate_45 rfl ?_
        refine g_iload d_Md_evaluate_46 rfl ?_
        refine g_iload d_Md_evaluate_48 rfl ?_
        obtain ⟨q50, hq50, h⟩ := it_b h
        refine g_callV (ci := 11) (q := (xR_Md, xF_Md, 32)) (As := [.int q42.1, .int x1, .int x4, .int x5]) (rest := []) (st2 := [.int q50.1]) (ws2 := [(a_t, .inr (11, [.int t_thrown, .ref a_m_bytes, .int t_size, .int t_entries, .ref a_m_begins, .ref a_m_isCommon, .ref a_m_common, .ref a_m_code, .ref a_m_data, .ref a_m_back, .ref a_m_first, .ref a_m_range, .ref a_m_from, .ref a_m_to, .int q50.2.1, .int t_limit, .int q50.2.2.1, .ref a_m_row, .ref a_m_commonRow, .ref a_m_kept, .int t_keptRows, .int t_place, .ref a_m_stack, .int q50.2.2.2.1, .int t_reckoned, .int t_value, .ref a_m_memory, .ref a_m_registers, .int t_known, .int t_pc, .int t_unwound, .ref a_m_next])), (a_m_bytes, .inl (K 1, 512, .inl m_bytes)), (a_m_stack, .inl (K 1, 16, .inl q50.2.2.2.2)), (a_m_memory, .inl (K 1, 256, .inl m_memory)), (a_m_registers, .inl (K 1, 8, .inl m_registers))]) (c_Md_operation l D K a_t a_m_bytes a_m_begins a_m_isCommon a_m_common a_m_code a_m_data a_m_back a_m_first a_m_range a_m_from a_m_to a_m_row a_m_commonRow a_m_kept a_m_stack a_m_memory a_m_registers a_m_next t_thrown t_size t_entries q42.2.1 t_limit q42.2.2 t_keptRows t_place t_height t_reckoned t_value t_known t_pc t_unwound m_bytes m_stack m_memory m_registers q42.1 x1 x4 x5 q50 hq50) (cs_Md_197 rfl rfl ⟨Nat.le_of_ble_eq_true rfl, Nat.le_of_ble_eq_true rfl⟩) rfl 0 rfl (gOver.mk2 [0, 1, 2, 3, 4] [some 0, some 1, some 2, some 3, some 4] (by decide) (by decide) rfl rfl rfl) (Nat.le_of_ble_eq_true rfl) ⟨Nat.le_of_ble_eq_true rfl, Nat.le_of_ble_eq_true rfl⟩ d_Md_evaluate_50 rfl rfl ?_
        refine g_istore (L' := [(7, .int q50.1), (6, .int (x6 + (-1))), (0, .ref a_t), (1, .int x1), (2, .int x2), (3, .int x3), (4, .int x4), (5, .int x5)]) d_Md_evaluate_53 (by decide) rfl ?_
        refine g_iload d_Md_evaluate_55 rfl ?_
        refine g_if_eq (tgt := 63) d_Md_evaluate_57 (by decide) (fun hc => ?_) (fun hc => ?_)
        · replace h := it_t hc h
          refine g_goto (tgt := 18) d_Md_evaluate_63 (by decide) ?_
          refine g_lsub (L' := [(0, .ref a_t), (1, .int x1), (2, .int x2), (3, .int x3), (4, .int x4), (5, .int x5), (6, .int (x6 + (-1)))]) [2, 3, 4, 5, 6, 7, 1] rfl ?_
          exact ih t_thrown t_size t_entries q50.2.1 t_limit q50.2.2.1 t_keptRows t_place q50.2.2.2.1 t_reckoned t_value t_known t_pc t_unwound m_bytes q50.2.2.2.2 m_memory m_registers x1 x2 x3 x4 x5 (x6 + (-1)) h
        · replace h := it_f hc h
          refine g_iload d_Md_evaluate_60 rfl ?_
          obtain rfl := Option.some.inj h
          exact g_iret rfl d_Md_evaluate_62
      · replace h := it_t hc h
        refine g_iconst (v := 1) d_Md_evaluate_34 (by decide) ?_
        obtain rfl := Option.some.inj h
        exact g_iret rfl d_Md_evaluate_35
def f_Md_evaluate (t_at : Int32) (t_limit : Int32) (t_bad : Int32) (t_height : Int32) (t_reckoned : Int32) (t_known : Int32) (m_bytes : Nat → Int32) (m_stack : Nat → Int32) (m_memory : Nat → Int32) (m_registers : Nat → Int32) (b1 : Int32) (e1 : Int32) (u1 : Int32) (h1 : Int32) (c1 : Int32) : Option (Int32 × Int32 × Int32 × Int32 × Int32 × Int32 × (Nat → Int32)) := f_Md_evaluate_18 LF b1 e1 0 t_height t_reckoned t_known m_bytes m_stack m_memory m_registers b1 e1 u1 h1 c1 u1
set_option maxRecDepth 100000 in
set_option maxHeartbeats 4000000 in
theorem c_Md_evaluate (l : Launch) (D : va_G) (K : Nat → ClassId) (a_t a_m_bytes a_m_begins a_m_isCommon a_m_common a_m_code a_m_data a_m_back a_m_first a_m_range a_m_from a_m_to a_m_row a_m_commonRow a_m_kept a_m_stack a_m_memory a_m_registers a_m_next : Nat) (t_thrown : Int32) (t_size : Int32) (t_entries : Int32) (t_at : Int32) (t_limit : Int32) (t_bad : Int32) (t_keptRows : Int32) (t_place : Int32) (t_height : Int32) (t_reckoned : Int32) (t_value : Int32) (t_known : Int32) (t_pc : Int32) (t_unwound : Int32) (m_bytes : Nat → Int32) (m_stack : Nat → Int32) (m_memory : Nat → Int32) (m_registers : Nat → Int32) (b1 : Int32) (e1 : Int32) (u1 : Int32) (h1 : Int32) (c1 : Int32) (o : Int32 × Int32 × Int32 × Int32 × Int32 × Int32 × (Nat → Int32)) (h : f_Md_evaluate t_at t_limit t_bad t_height t_reckoned t_known m_bytes m_stack m_memory m_registers b1 e1 u1 h1 c1 = some o) : Ct l y_Md_evaluate b_Md_evaluate 8 (some .int) { frames := 4, cells := 0, slots := 0, locals := 96 } D vwCl (xTy K) [.ref a_t, .int b1, .int e1, .int u1, .int h1, .int c1] [(a_t, .inr (11, [.int t_thrown, .ref a_m_bytes, .int t_size, .int t_entries, .ref a_m_begins, .ref a_m_isCommon, .ref a_m_common, .ref a_m_code, .ref a_m_data, .ref a_m_back, .ref a_m_first, .ref a_m_range, .ref a_m_from, .ref a_m_to, .int t_at, .int t_limit, .int t_bad, .ref a_m_row, .ref a_m_commonRow, .ref a_m_kept, .int t_keptRows, .int t_place, .ref a_m_stack, .int t_height, .int t_reckoned, .int t_value, .ref a_m_memory, .ref a_m_registers, .int t_known, .int t_pc, .int t_unwound, .ref a_m_next])), (a_m_bytes, .inl (K 1, 512, .inl m_bytes)), (a_m_stack, .inl (K 1, 16, .inl m_stack)), (a_m_memory, .inl (K 1, 256, .inl m_memory)), (a_m_registers, .inl (K 1, 8, .inl m_registers))] (some (.int o.1)) [(a_t, .inr (11, [.int t_thrown, .ref a_m_bytes, .int t_size, .int t_entries, .ref a_m_begins, .ref a_m_isCommon, .ref a_m_common, .ref a_m_code, .ref a_m_data, .ref a_m_back, .ref a_m_first, .ref a_m_range, .ref a_m_from, .ref a_m_to, .int o.2.1, .int o.2.2.1, .int o.2.2.2.1, .ref a_m_row, .ref a_m_commonRow, .ref a_m_kept, .int t_keptRows, .int t_place, .ref a_m_stack, .int o.2.2.2.2.1, .int o.2.2.2.2.2.1, .int t_value, .ref a_m_memory, .ref a_m_registers, .int t_known, .int t_pc, .int t_unwound, .ref a_m_next])), (a_m_bytes, .inl (K 1, 512, .inl m_bytes)), (a_m_stack, .inl (K 1, 16, .inl o.2.2.2.2.2.2)), (a_m_memory, .inl (K 1, 256, .inl m_memory)), (a_m_registers, .inl (K 1, 8, .inl m_registers))] := by
  refine Ct.ofG (by decide) (Nat.le_of_ble_eq_true rfl) ?_
  refine g_L (L' := [(0, .ref a_t), (1, .int b1), (2, .int e1), (3, .int u1), (4, .int h1), (5, .int c1)]) rfl ?_
  unfold f_Md_evaluate at h
  refine g_aload_n d_Md_evaluate_0 rfl ?_
  refine g_iload_n d_Md_evaluate_1 rfl ?_
  refine pf_Md_79 0 rfl (v := .int b1) rfl rfl (Nat.le_of_ble_eq_true rfl) (ws' := [(a_t, .inr (11, [.int t_thrown, .ref a_m_bytes, .int t_size, .int t_entries, .ref a_m_begins, .ref a_m_isCommon, .ref a_m_common, .ref a_m_code, .ref a_m_data, .ref a_m_back, .ref a_m_first, .ref a_m_range, .ref a_m_from, .ref a_m_to, .int b1, .int t_limit, .int t_bad, .ref a_m_row, .ref a_m_commonRow, .ref a_m_kept, .int t_keptRows, .int t_place, .ref a_m_stack, .int t_height, .int t_reckoned, .int t_value, .ref a_m_memory, .ref a_m_registers, .int t_known, .int t_pc, .int t_unwound, .ref a_m_next])), (a_m_bytes, .inl (K 1, 512, .inl m_bytes)), (a_m_stack, .inl (K 1, 16, .inl m_stack)), (a_m_memory, .inl (K 1, 256, .inl m_memory)), (a_m_registers, .inl (K 1, 8, .inl m_registers))]) rfl d_Md_evaluate_2 ?_
  refine g_aload_n d_Md_evaluate_5 rfl ?_
  refine g_iload_n d_Md_evaluate_6 rfl ?_
  refine pf_Md_82 0 rfl (v := .int e1) rfl rfl (Nat.le_of_ble_eq_true rfl) (ws' := [(a_t, .inr (11, [.int t_thrown, .ref a_m_bytes, .int t_size, .int t_entries, .ref a_m_begins, .ref a_m_isCommon, .ref a_m_common, .ref a_m_code, .ref a_m_data, .ref a_m_back, .ref a_m_first, .ref a_m_range, .ref a_m_from, .ref a_m_to, .int b1, .int e1, .int t_bad, .ref a_m_row, .ref a_m_commonRow, .ref a_m_kept, .int t_keptRows, .int t_place, .ref a_m_stack, .int t_height, .int t_reckoned, .int t_value, .ref a_m_memory, .ref a_m_registers, .int t_known, .int t_pc, .int t_unwound, .ref a_m_next])), (a_m_bytes, .inl (K 1, 512, .inl m_bytes)), (a_m_stack, .inl (K 1, 16, .inl m_stack)), (a_m_memory, .inl (K 1, 256, .inl m_memory)), (a_m_registers, .inl (K 1, 8, .inl m_registers))]) rfl d_Md_evaluate_7 ?_
  refine g_aload_n d_Md_evaluate_10 rfl ?_
  refine g_iconst (v := 0) d_Md_evaluate_11 (by decide) ?_
  refine pf_Md_85 0 rfl (v := .int 0) (by decide) (by decide) (Nat.le_of_ble_eq_true rfl) (ws' := [(a_t, .inr (11, [.int t_thrown, .ref a_m_bytes, .int t_size, .int t_entries, .ref a_m_begins, .ref a_m_isCommon, .ref a_m_common, .ref a_m_code, .ref a_m_data, .ref a_m_back, .ref a_m_first, .ref a_m_range, .ref a_m_from, .ref a_m_to, .int b1, .int e1, .int 0, .ref a_m_row, .ref a_m_commonRow, .ref a_m_kept, .int t_keptRows, .int t_place, .ref a_m_stack, .int t_height, .int t_reckoned, .int t_value, .ref a_m_memory, .ref a_m_registers, .int t_known, .int t_pc, .int t_unwound, .ref a_m_next])), (a_m_bytes, .inl (K 1, 512, .inl m_bytes)), (a_m_stack, .inl (K 1, 16, .inl m_stack)), (a_m_memory, .inl (K 1, 256, .inl m_memory)), (a_m_registers, .inl (K 1, 8, .inl m_registers))]) rfl d_Md_evaluate_12 ?_
  refine g_iload_n d_Md_evaluate_15 rfl ?_
  refine g_istore (L' := [(6, .int u1), (0, .ref a_t), (1, .int b1), (2, .int e1), (3, .int u1), (4, .int h1), (5, .int c1)]) d_Md_evaluate_16 (by decide) rfl ?_
  refine g_lsub (L' := [(0, .ref a_t), (1, .int b1), (2, .int e1), (3, .int u1), (4, .int h1), (5, .int c1), (6, .int u1)]) [1, 2, 3, 4, 5, 6, 0] rfl ?_
  exact j_Md_evaluate_18 l D K a_t a_m_bytes a_m_begins a_m_isCommon a_m_common a_m_code a_m_data a_m_back a_m_first a_m_range a_m_from a_m_to a_m_row a_m_commonRow a_m_kept a_m_stack a_m_memory a_m_registers a_m_next LF t_thrown t_size t_entries b1 e1 0 t_keptRows t_place t_height t_reckoned t_value t_known t_pc t_unwound m_bytes m_stack m_memory m_registers b1 e1 u1 h1 c1 u1 o h
def f_Md_word (t_thrown : Int32) (m_memory : Nat → Int32) (a1 : Int32) (v1 : Int32) : Option (Int32 × (Nat → Int32)) := ((f_Md_isAddress a1).bind fun q2 => if q2 = 0 then (some (1, m_memory)) else (if (4 : Int32) = 0 then none else if (a1 / 4) < 0 ∨ 256 ≤ (a1 / 4).toNatClampNeg then none else some (0, upd m_memory (a1 / 4).toNatClampNeg v1)))
set_option maxRecDepth 100000 in
set_option maxHeartbeats 4000000 in
theorem c_Md_word (l : Launch) (D : va_G) (K : Nat → ClassId) (a_t a_m_bytes a_m_begins a_m_isCommon a_m_common a_m_code a_m_data a_m_back a_m_first a_m_range a_m_from a_m_to a_m_row a_m_commonRow a_m_kept a_m_stack a_m_memory a_m_registers a_m_next : Nat) (t_thrown : Int32) (t_size : Int32) (t_entries : Int32) (t_at : Int32) (t_limit : Int32) (t_bad : Int32) (t_keptRows : Int32) (t_place : Int32) (t_height : Int32) (t_reckoned : Int32) (t_value : Int32) (t_known : Int32) (t_pc : Int32) (t_unwound : Int32) (m_memory : Nat → Int32) (a1 : Int32) (v1 : Int32) (o : Int32 × (Nat → Int32)) (h : f_Md_word t_thrown m_memory a1 v1 = some o) : Ct l y_Md_word b_Md_word 3 none { frames := 2, cells := 0, slots := 0, locals := 42 } D vwCl (xTy K) [.ref a_t, .int a1, .int v1] [(a_t, .inr (11, [.int t_thrown, .ref a_m_bytes, .int t_size, .int t_entries, .ref a_m_begins, .ref a_m_isCommon, .ref a_m_common, .ref a_m_code, .ref a_m_data, .ref a_m_back, .ref a_m_first, .ref a_m_range, .ref a_m_from, .ref a_m_to, .int t_at, .int t_limit, .int t_bad, .ref a_m_row, .ref a_m_commonRow, .ref a_m_kept, .int t_keptRows, .int t_place, .ref a_m_stack, .int t_height, .int t_reckoned, .int t_value, .ref a_m_memory, .ref a_m_registers, .int t_known, .int t_pc, .int t_unwound, .ref a_m_next])), (a_m_memory, .inl (K 1, 256, .inl m_memory))] none [(a_t, .inr (11, [.int o.1, .ref a_m_bytes, .int t_size, .int t_entries, .ref a_m_begins, .ref a_m_isCommon, .ref a_m_common, .ref a_m_code, .ref a_m_data, .ref a_m_back, .ref a_m_first, .ref a_m_range, .ref a_m_from, .ref a_m_to, .int t_at, .int t_limit, .int t_bad, .ref a_m_row, .ref a_m_commonRow, .ref a_m_kept, .int t_keptRows, .int t_place, .ref a_m_stack, .int t_height, .int t_reckoned, .int t_value, .ref a_m_memory, .ref a_m_registers, .int t_known, .int t_pc, .int t_unwound, .ref a_m_next])), (a_m_memory, .inl (K 1, 256, .inl o.2))] := by
  refine Ct.ofG (by decide) (Nat.le_of_ble_eq_true rfl) ?_
  refine g_L (L' := [(0, .ref a_t), (1, .int a1), (2, .int v1)]) rfl ?_
  unfold f_Md_word at h
  refine g_aload_n d_Md_word_0 rfl ?_
  refine g_iload_n d_Md_word_1 rfl ?_
  obtain ⟨q2, hq2, h⟩ := it_b h
  refine g_callS (As := [.int a1]) (rest := [.ref a_t]) (st2 := [.int q2, .ref a_t]) (ws2 := [(a_t, .inr (11, [.int t_thrown, .ref a_m_bytes, .int t_size, .int t_entries, .ref a_m_begins, .ref a_m_isCommon, .ref a_m_common, .ref a_m_code, .ref a_m_data, .ref a_m_back, .ref a_m_first, .ref a_m_range, .ref a_m_from, .ref a_m_to, .int t_at, .int t_limit, .int t_bad, .ref a_m_row, .ref a_m_commonRow, .ref a_m_kept, .int t_keptRows, .int t_place, .ref a_m_stack, .int t_height, .int t_reckoned, .int t_value, .ref a_m_memory, .ref a_m_registers, .int t_known, .int t_pc, .int t_unwound, .ref a_m_next])), (a_m_memory, .inl (K 1, 256, .inl m_memory))]) (c_Md_isAddress l D K a1 q2 hq2) (cs_Md_194 rfl rfl ⟨Nat.le_of_ble_eq_true rfl, Nat.le_of_ble_eq_true rfl⟩) (gOver.rd [] (by decide) rfl) (Nat.le_of_ble_eq_true rfl) ⟨Nat.le_of_ble_eq_true rfl, Nat.le_of_ble_eq_true rfl⟩ d_Md_word_2 rfl rfl ?_
  refine g_if_eq (tgt := 12) d_Md_word_5 (by decide) (fun hc => ?_) (fun hc => ?_)
  · replace h := it_t hc h
    refine g_iconst (v := 1) d_Md_word_12 (by decide) ?_
    refine pf_Md_69 0 rfl (v := .int 1) rfl rfl (Nat.le_of_ble_eq_true rfl) (ws' := [(a_t, .inr (11, [.int 1, .ref a_m_bytes, .int t_size, .int t_entries, .ref a_m_begins, .ref a_m_isCommon, .ref a_m_common, .ref a_m_code, .ref a_m_data, .ref a_m_back, .ref a_m_first, .ref a_m_range, .ref a_m_from, .ref a_m_to, .int t_at, .int t_limit, .int t_bad, .ref a_m_row, .ref a_m_commonRow, .ref a_m_kept, .int t_keptRows, .int t_place, .ref a_m_stack, .int t_height, .int t_reckoned, .int t_value, .ref a_m_memory, .ref a_m_registers, .int t_known, .int t_pc, .int t_unwound, .ref a_m_next])), (a_m_memory, .inl (K 1, 256, .inl m_memory))]) rfl d_Md_word_13 ?_
    refine g_aload_n d_Md_word_16 rfl ?_
    refine gf_Md_69 0 rfl (v := .int 1) rfl d_Md_word_17 ?_
    refine g_if_ne (tgt := 32) d_Md_word_20 (by decide) (fun hc => ?_) (fun hc => ?_)
    · skip
      obtain rfl := Option.some.inj h
      exact g_vret rfl d_Md_word_32
    · exact absurd hc (by decide)
  · replace h := it_f hc h
    refine g_iconst (v := 0) d_Md_word_8 (by decide) ?_
    refine g_goto (tgt := 13) d_Md_word_9 (by decide) ?_
    refine pf_Md_69 0 rfl (v := .int 0) rfl rfl (Nat.le_of_ble_eq_true rfl) (ws' := [(a_t, .inr (11, [.int 0, .ref a_m_bytes, .int t_size, .int t_entries, .ref a_m_begins, .ref a_m_isCommon, .ref a_m_common, .ref a_m_code, .ref a_m_data, .ref a_m_back, .ref a_m_first, .ref a_m_range, .ref a_m_from, .ref a_m_to, .int t_at, .int t_limit, .int t_bad, .ref a_m_row, .ref a_m_commonRow, .ref a_m_kept, .int t_keptRows, .int t_place, .ref a_m_stack, .int t_height, .int t_reckoned, .int t_value, .ref a_m_memory, .ref a_m_registers, .int t_known, .int t_pc, .int t_unwound, .ref a_m_next])), (a_m_memory, .inl (K 1, 256, .inl m_memory))]) rfl d_Md_word_13 ?_
    refine g_aload_n d_Md_word_16 rfl ?_
    refine gf_Md_69 0 rfl (v := .int 0) rfl d_Md_word_17 ?_
    refine g_if_ne (tgt := 32) d_Md_word_20 (by decide) (fun hc => ?_) (fun hc => ?_)
    · exact absurd hc (by decide)
    · skip
      refine g_aload_n d_Md_word_23 rfl ?_
      refine gf_Md_56 0 rfl (v := .ref a_m_memory) rfl d_Md_word_24 ?_
      refine g_iload_n d_Md_word_27 rfl ?_
      refine g_iconst (v := 4) d_Md_word_28 (by decide) ?_
      obtain ⟨hz29, h⟩ := it_n h
      refine g_idiv d_Md_word_29 hz29 ?_
      refine g_iload_n d_Md_word_30 rfl ?_
      obtain ⟨hi31, h⟩ := it_in h
      refine g_iast 1 1 (ws' := [(a_t, .inr (11, [.int 0, .ref a_m_bytes, .int t_size, .int t_entries, .ref a_m_begins, .ref a_m_isCommon, .ref a_m_common, .ref a_m_code, .ref a_m_data, .ref a_m_back, .ref a_m_first, .ref a_m_range, .ref a_m_from, .ref a_m_to, .int t_at, .int t_limit, .int t_bad, .ref a_m_row, .ref a_m_commonRow, .ref a_m_kept, .int t_keptRows, .int t_place, .ref a_m_stack, .int t_height, .int t_reckoned, .int t_value, .ref a_m_memory, .ref a_m_registers, .int t_known, .int t_pc, .int t_unwound, .ref a_m_next])), (a_m_memory, .inl (K 1, 256, .inl (upd m_memory (a1 / 4).toNatClampNeg v1)))]) d_Md_word_31 rfl rfl hi31 rfl ?_
      obtain rfl := Option.some.inj h
      exact g_vret rfl d_Md_word_32
def f_Md_register_16 (t_thrown : Int32) (t_known : Int32) (m_registers : Nat → Int32) (x1 : Int32) (x2 : Int32) (s0 : Int32) : Option (Int32 × Int32 × (Nat → Int32)) := if s0 = 0 then (if x1 < 0 ∨ 8 ≤ x1.toNatClampNeg then none else some (s0, t_known ||| (1 <<< (x1 &&& 31)), upd m_registers x1.toNatClampNeg x2)) else (some (s0, t_known, m_registers))
set_option maxRecDepth 100000 in
set_option maxHeartbeats 4000000 in
theorem j_Md_register_16 (l : Launch) (D : va_G) (K : Nat → ClassId) (a_t a_m_bytes a_m_begins a_m_isCommon a_m_common a_m_code a_m_data a_m_back a_m_first a_m_range a_m_from a_m_to a_m_row a_m_commonRow a_m_kept a_m_stack a_m_memory a_m_registers a_m_next : Nat) {av : List Value} {w0 : va_W} (t_thrown : Int32) (t_size : Int32) (t_entries : Int32) (t_at : Int32) (t_limit : Int32) (t_bad : Int32) (t_keptRows : Int32) (t_place : Int32) (t_height : Int32) (t_reckoned : Int32) (t_value : Int32) (t_known : Int32) (t_pc : Int32) (t_unwound : Int32) (m_registers : Nat → Int32) (x1 : Int32) (x2 : Int32) (s0 : Int32) (o : Int32 × Int32 × (Nat → Int32)) (h : f_Md_register_16 t_thrown t_known m_registers x1 x2 s0 = some o) : Gm l y_Md_register b_Md_register 3 none { frames := 1, cells := 0, slots := 0, locals := 22 } D vwCl (xTy K) av w0 (CtF D vwCl av w0 none [(a_t, .inr (11, [.int o.1, .ref a_m_bytes, .int t_size, .int t_entries, .ref a_m_begins, .ref a_m_isCommon, .ref a_m_common, .ref a_m_code, .ref a_m_data, .ref a_m_back, .ref a_m_first, .ref a_m_range, .ref a_m_from, .ref a_m_to, .int t_at, .int t_limit, .int t_bad, .ref a_m_row, .ref a_m_commonRow, .ref a_m_kept, .int t_keptRows, .int t_place, .ref a_m_stack, .int t_height, .int t_reckoned, .int t_value, .ref a_m_memory, .ref a_m_registers, .int o.2.1, .int t_pc, .int t_unwound, .ref a_m_next])), (a_m_registers, .inl (K 1, 8, .inl o.2.2))]) 0 0 [(a_t, .inr (11, [.int t_thrown, .ref a_m_bytes, .int t_size, .int t_entries, .ref a_m_begins, .ref a_m_isCommon, .ref a_m_common, .ref a_m_code, .ref a_m_data, .ref a_m_back, .ref a_m_first, .ref a_m_range, .ref a_m_from, .ref a_m_to, .int t_at, .int t_limit, .int t_bad, .ref a_m_row, .ref a_m_commonRow, .ref a_m_kept, .int t_keptRows, .int t_place, .ref a_m_stack, .int t_height, .int t_reckoned, .int t_value, .ref a_m_memory, .ref a_m_registers, .int t_known, .int t_pc, .int t_unwound, .ref a_m_next])), (a_m_registers, .inl (K 1, 8, .inl m_registers))] [(0, .ref a_t), (1, .int x1), (2, .int x2)] 16 [.int s0, .ref a_t] := by
  unfold f_Md_register_16 at h
  refine pf_Md_69 0 rfl (v := .int s0) rfl rfl (Nat.le_of_ble_eq_true rfl) (ws' := [(a_t, .inr (11, [.int s0, .ref a_m_bytes, .int t_size, .int t_entries, .ref a_m_begins, .ref a_m_isCommon, .ref a_m_common, .ref a_m_code, .ref a_m_data, .ref a_m_back, .ref a_m_first, .ref a_m_range, .ref a_m_from, .ref a_m_to, .int t_at, .int t_limit, .int t_bad, .ref a_m_row, .ref a_m_commonRow, .ref a_m_kept, .int t_keptRows, .int t_place, .ref a_m_stack, .int t_height, .int t_reckoned, .int t_value, .ref a_m_memory, .ref a_m_registers, .int t_known, .int t_pc, .int t_unwound, .ref a_m_next])), (a_m_registers, .inl (K 1, 8, .inl m_registers))]) rfl d_Md_register_16 ?_
  refine g_aload_n d_Md_register_19 rfl ?_
  refine gf_Md_69 0 rfl (v := .int s0) rfl d_Md_register_20 ?_
  refine g_if_eq (tgt := 27) d_Md_register_23 (by decide) (fun hc => ?_) (fun hc => ?_)
  · replace h := it_t hc h
    refine g_aload_n d_Md_register_27 rfl ?_
    refine gf_Md_59 0 rfl (v := .ref a_m_registers) rfl d_Md_register_28 ?_
    refine g_iload_n d_Md_register_31 rfl ?_
    refine g_iload_n d_Md_register_32 rfl ?_
    obtain ⟨hi33, h⟩ := it_in h
    refine g_iast 1 1 (ws' := [(a_t, .inr (11, [.int s0, .ref a_m_bytes, .int t_size, .int t_entries, .ref a_m_begins, .ref a_m_isCommon, .ref a_m_common, .ref a_m_code, .ref a_m_data, .ref a_m_back, .ref a_m_first, .ref a_m_range, .ref a_m_from, .ref a_m_to, .int t_at, .int t_limit, .int t_bad, .ref a_m_row, .ref a_m_commonRow, .ref a_m_kept, .int t_keptRows, .int t_place, .ref a_m_stack, .int t_height, .int t_reckoned, .int t_value, .ref a_m_memory, .ref a_m_registers, .int t_known, .int t_pc, .int t_unwound, .ref a_m_next])), (a_m_registers, .inl (K 1, 8, .inl (upd m_registers x1.toNatClampNeg x2)))]) d_Md_register_33 rfl rfl hi33 rfl ?_
    refine g_aload_n d_Md_register_34 rfl ?_
    refine g_aload_n d_Md_register_35 rfl ?_
    refine gf_Md_62 0 rfl (v := .int t_known) rfl d_Md_register_36 ?_
    refine g_iconst (v := 1) d_Md_register_39 (by decide) ?_
    refine g_iload_n d_Md_register_40 rfl ?_
    refine g_ishl d_Md_register_41 ?_
    refine g_ior d_Md_register_42 ?_
    refine pf_Md_62 0 rfl (v := .int (t_known ||| (1 <<< (x1 &&& 31)))) rfl rfl (Nat.le_of_ble_eq_true rfl) (ws' := [(a_t, .inr (11, [.int s0, .ref a_m_bytes, .int t_size, .int t_entries, .ref a_m_begins, .ref a_m_isCommon, .ref a_m_common, .ref a_m_code, .ref a_m_data, .ref a_m_back, .ref a_m_first, .ref a_m_range, .ref a_m_from, .ref a_m_to, .int t_at, .int t_limit, .int t_bad, .ref a_m_row, .ref a_m_commonRow, .ref a_m_kept, .int t_keptRows, .int t_place, .ref a_m_stack, .int t_height, .int t_reckoned, .int t_value, .ref a_m_memory, .ref a_m_registers, .int (t_known ||| (1 <<< (x1 &&& 31))), .int t_pc, .int t_unwound, .ref a_m_next])), (a_m_registers, .inl (K 1, 8, .inl (upd m_registers x1.toNatClampNeg x2)))]) rfl d_Md_register_43 ?_
    obtain rfl := Option.some.inj h
    exact g_vret rfl d_Md_register_46
  · replace h := it_f hc h
    obtain rfl := Option.some.inj h
    exact g_vret rfl d_Md_register_26
def f_Md_register (t_thrown : Int32) (t_known : Int32) (m_registers : Nat → Int32) (r1 : Int32) (v1 : Int32) : Option (Int32 × Int32 × (Nat → Int32)) := ((f_Md_within r1 0 7).bind fun q5 => if q5 = 0 then (f_Md_register_16 t_thrown t_known m_registers r1 v1 1) else (f_Md_register_16 t_thrown t_known m_registers r1 v1 0))
set_option maxRecDepth 100000 in
set_option maxHeartbeats 4000000 in
theorem c_Md_register (l : Launch) (D : va_G) (K : Nat → ClassId) (a_t a_m_bytes a_m_begins a_m_isCommon a_m_common a_m_code a_m_data a_m_back a_m_first a_m_range a_m_from a_m_to a_m_row a_m_commonRow a_m_kept a_m_stack a_m_memory a_m_registers a_m_next : Nat) (t_thrown : Int32) (t_size : Int32) (t_entries : Int32) (t_at : Int32) (t_limit : Int32) (t_bad : Int32) (t_keptRows : Int32) (t_place : Int32) (t_height : Int32) (t_reckoned : Int32) (t_value : Int32) (t_known : Int32) (t_pc : Int32) (t_unwound : Int32) (m_registers : Nat → Int32) (r1 : Int32) (v1 : Int32) (o : Int32 × Int32 × (Nat → Int32)) (h : f_Md_register t_thrown t_known m_registers r1 v1 = some o) : Ct l y_Md_register b_Md_register 3 none { frames := 1, cells := 0, slots := 0, locals := 22 } D vwCl (xTy K) [.ref a_t, .int r1, .int v1] [(a_t, .inr (11, [.int t_thrown, .ref a_m_bytes, .int t_size, .int t_entries, .ref a_m_begins, .ref a_m_isCommon, .ref a_m_common, .ref a_m_code, .ref a_m_data, .ref a_m_back, .ref a_m_first, .ref a_m_range, .ref a_m_from, .ref a_m_to, .int t_at, .int t_limit, .int t_bad, .ref a_m_row, .ref a_m_commonRow, .ref a_m_kept, .int t_keptRows, .int t_place, .ref a_m_stack, .int t_height, .int t_reckoned, .int t_value, .ref a_m_memory, .ref a_m_registers, .int t_known, .int t_pc, .int t_unwound, .ref a_m_next])), (a_m_registers, .inl (K 1, 8, .inl m_registers))] none [(a_t, .inr (11, [.int o.1, .ref a_m_bytes, .int t_size, .int t_entries, .ref a_m_begins, .ref a_m_isCommon, .ref a_m_common, .ref a_m_code, .ref a_m_data, .ref a_m_back, .ref a_m_first, .ref a_m_range, .ref a_m_from, .ref a_m_to, .int t_at, .int t_limit, .int t_bad, .ref a_m_row, .ref a_m_commonRow, .ref a_m_kept, .int t_keptRows, .int t_place, .ref a_m_stack, .int t_height, .int t_reckoned, .int t_value, .ref a_m_memory, .ref a_m_registers, .int o.2.1, .int t_pc, .int t_unwound, .ref a_m_next])), (a_m_registers, .inl (K 1, 8, .inl o.2.2))] := by
  refine Ct.ofG (by decide) (Nat.le_of_ble_eq_true rfl) ?_
  refine g_L (L' := [(0, .ref a_t), (1, .int r1), (2, .int v1)]) rfl ?_
  unfold f_Md_register at h
  refine g_aload_n d_Md_register_0 rfl ?_
  refine g_iload_n d_Md_register_1 rfl ?_
  refine g_iconst (v := 0) d_Md_register_2 (by decide) ?_
  refine g_bipush (v := 7) d_Md_register_3 (by decide) ?_
  obtain ⟨q5, hq5, h⟩ := it_b h
  refine g_callS (As := [.int r1, .int 0, .int 7]) (rest := [.ref a_t]) (st2 := [.int q5, .ref a_t]) (ws2 := [(a_t, .inr (11, [.int t_thrown, .ref a_m_bytes, .int t_size, .int t_entries, .ref a_m_begins, .ref a_m_isCommon, .ref a_m_common, .ref a_m_code, .ref a_m_data, .ref a_m_back, .ref a_m_first, .ref a_m_range, .ref a_m_from, .ref a_m_to, .int t_at, .int t_limit, .int t_bad, .ref a_m_row, .ref a_m_commonRow, .ref a_m_kept, .int t_keptRows, .int t_place, .ref a_m_stack, .int t_height, .int t_reckoned, .int t_value, .ref a_m_memory, .ref a_m_registers, .int t_known, .int t_pc, .int t_unwound, .ref a_m_next])), (a_m_registers, .inl (K 1, 8, .inl m_registers))]) (c_Md_within l D K r1 0 7 q5 hq5) (cs_Md_75 rfl rfl ⟨Nat.le_of_ble_eq_true rfl, Nat.le_of_ble_eq_true rfl⟩) (gOver.rd [] (by decide) rfl) (Nat.le_of_ble_eq_true rfl) ⟨Nat.le_of_ble_eq_true rfl, Nat.le_of_ble_eq_true rfl⟩ d_Md_register_5 rfl rfl ?_
  refine g_if_eq (tgt := 15) d_Md_register_8 (by decide) (fun hc => ?_) (fun hc => ?_)
  · replace h := it_t hc h
    refine g_iconst (v := 1) d_Md_register_15 (by decide) ?_
    exact j_Md_register_16 l D K a_t a_m_bytes a_m_begins a_m_isCommon a_m_common a_m_code a_m_data a_m_back a_m_first a_m_range a_m_from a_m_to a_m_row a_m_commonRow a_m_kept a_m_stack a_m_memory a_m_registers a_m_next t_thrown t_size t_entries t_at t_limit t_bad t_keptRows t_place t_height t_reckoned t_value t_known t_pc t_unwound m_registers r1 v1 1 o h
  · replace h := it_f hc h
    refine g_iconst (v := 0) d_Md_register_11 (by decide) ?_
    refine g_goto (tgt := 16) d_Md_register_12 (by decide) ?_
    exact j_Md_register_16 l D K a_t a_m_bytes a_m_begins a_m_isCommon a_m_common a_m_code a_m_data a_m_back a_m_first a_m_range a_m_from a_m_to a_m_row a_m_commonRow a_m_kept a_m_stack a_m_memory a_m_registers a_m_next t_thrown t_size t_entries t_at t_limit t_bad t_keptRows t_place t_height t_reckoned t_value t_known t_pc t_unwound m_registers r1 v1 0 o h
def f_Md_start (t_thrown : Int32) (t_pc : Int32) (t_unwound : Int32) (p1 : Int32) : Option (Int32 × Int32 × Int32) := some (0, p1, 0)
set_option maxRecDepth 100000 in
set_option maxHeartbeats 4000000 in
theorem c_Md_start (l : Launch) (D : va_G) (K : Nat → ClassId) (a_t a_m_bytes a_m_begins a_m_isCommon a_m_common a_m_code a_m_data a_m_back a_m_first a_m_range a_m_from a_m_to a_m_row a_m_commonRow a_m_kept a_m_stack a_m_memory a_m_registers a_m_next : Nat) (t_thrown : Int32) (t_size : Int32) (t_entries : Int32) (t_at : Int32) (t_limit : Int32) (t_bad : Int32) (t_keptRows : Int32) (t_place : Int32) (t_height : Int32) (t_reckoned : Int32) (t_value : Int32) (t_known : Int32) (t_pc : Int32) (t_unwound : Int32) (p1 : Int32) (o : Int32 × Int32 × Int32) (h : f_Md_start t_thrown t_pc t_unwound p1 = some o) : Ct l y_Md_start b_Md_start 2 none { frames := 0, cells := 0, slots := 0, locals := 0 } D vwCl (xTy K) [.ref a_t, .int p1] [(a_t, .inr (11, [.int t_thrown, .ref a_m_bytes, .int t_size, .int t_entries, .ref a_m_begins, .ref a_m_isCommon, .ref a_m_common, .ref a_m_code, .ref a_m_data, .ref a_m_back, .ref a_m_first, .ref a_m_range, .ref a_m_from, .ref a_m_to, .int t_at, .int t_limit, .int t_bad, .ref a_m_row, .ref a_m_commonRow, .ref a_m_kept, .int t_keptRows, .int t_place, .ref a_m_stack, .int t_height, .int t_reckoned, .int t_value, .ref a_m_memory, .ref a_m_registers, .int t_known, .int t_pc, .int t_unwound, .ref a_m_next]))] none [(a_t, .inr (11, [.int o.1, .ref a_m_bytes, .int t_size, .int t_entries, .ref a_m_begins, .ref a_m_isCommon, .ref a_m_common, .ref a_m_code, .ref a_m_data, .ref a_m_back, .ref a_m_first, .ref a_m_range, .ref a_m_from, .ref a_m_to, .int t_at, .int t_limit, .int t_bad, .ref a_m_row, .ref a_m_commonRow, .ref a_m_kept, .int t_keptRows, .int t_place, .ref a_m_stack, .int t_height, .int t_reckoned, .int t_value, .ref a_m_memory, .ref a_m_registers, .int t_known, .int o.2.1, .int o.2.2, .ref a_m_next]))] := by
  refine Ct.ofG (by decide) (Nat.le_of_ble_eq_true rfl) ?_
  refine g_L (L' := [(0, .ref a_t), (1, .int p1)]) rfl ?_
  unfold f_Md_start at h
  refine g_aload_n d_Md_start_0 rfl ?_
  refine g_iconst (v := 0) d_Md_start_1 (by decide) ?_
  refine pf_Md_69 0 rfl (v := .int 0) rfl rfl (Nat.le_of_ble_eq_true rfl) (ws' := [(a_t, .inr (11, [.int 0, .ref a_m_bytes, .int t_size, .int t_entries, .ref a_m_begins, .ref a_m_isCommon, .ref a_m_common, .ref a_m_code, .ref a_m_data, .ref a_m_back, .ref a_m_first, .ref a_m_range, .ref a_m_from, .ref a_m_to, .int t_at, .int t_limit, .int t_bad, .ref a_m_row, .ref a_m_commonRow, .ref a_m_kept, .int t_keptRows, .int t_place, .ref a_m_stack, .int t_height, .int t_reckoned, .int t_value, .ref a_m_memory, .ref a_m_registers, .int t_known, .int t_pc, .int t_unwound, .ref a_m_next]))]) rfl d_Md_start_2 ?_
  refine g_aload_n d_Md_start_5 rfl ?_
  refine g_iload_n d_Md_start_6 rfl ?_
  refine pf_Md_204 0 rfl (v := .int p1) rfl rfl (Nat.le_of_ble_eq_true rfl) (ws' := [(a_t, .inr (11, [.int 0, .ref a_m_bytes, .int t_size, .int t_entries, .ref a_m_begins, .ref a_m_isCommon, .ref a_m_common, .ref a_m_code, .ref a_m_data, .ref a_m_back, .ref a_m_first, .ref a_m_range, .ref a_m_from, .ref a_m_to, .int t_at, .int t_limit, .int t_bad, .ref a_m_row, .ref a_m_commonRow, .ref a_m_kept, .int t_keptRows, .int t_place, .ref a_m_stack, .int t_height, .int t_reckoned, .int t_value, .ref a_m_memory, .ref a_m_registers, .int t_known, .int p1, .int t_unwound, .ref a_m_next]))]) rfl d_Md_start_7 ?_
  refine g_aload_n d_Md_start_10 rfl ?_
  refine g_iconst (v := 0) d_Md_start_11 (by decide) ?_
  refine pf_Md_207 0 rfl (v := .int 0) rfl rfl (Nat.le_of_ble_eq_true rfl) (ws' := [(a_t, .inr (11, [.int 0, .ref a_m_bytes, .int t_size, .int t_entries, .ref a_m_begins, .ref a_m_isCommon, .ref a_m_common, .ref a_m_code, .ref a_m_data, .ref a_m_back, .ref a_m_first, .ref a_m_range, .ref a_m_from, .ref a_m_to, .int t_at, .int t_limit, .int t_bad, .ref a_m_row, .ref a_m_commonRow, .ref a_m_kept, .int t_keptRows, .int t_place, .ref a_m_stack, .int t_height, .int t_reckoned, .int t_value, .ref a_m_memory, .ref a_m_registers, .int t_known, .int p1, .int 0, .ref a_m_next]))]) rfl d_Md_start_12 ?_
  obtain rfl := Option.some.inj h
  exact g_vret rfl d_Md_start_15
def f_Md_reckon_34 (t_thrown : Int32) (t_size : Int32) (t_at : Int32) (t_limit : Int32) (t_bad : Int32) (t_height : Int32) (t_reckoned : Int32) (t_value : Int32) (t_known : Int32) (m_bytes : Nat → Int32) (m_stack : Nat → Int32) (m_memory : Nat → Int32) (m_registers : Nat → Int32) (x1 : Int32) (x2 : Int32) (x3 : Int32) (s0 : Int32) : Option (Int32 × Int32 × Int32 × Int32 × Int32 × Int32 × Int32 × Int32 × (Nat → Int32)) := if s0 = 0 then (((f_Md_evaluate t_at t_limit t_bad 0 t_reckoned t_known m_bytes m_stack m_memory m_registers x1 x2 x3 0 0).bind fun q57 => if q57.1 = 0 then (some (q57.1, s0, q57.2.1, q57.2.2.1, q57.2.2.2.1, q57.2.2.2.2.1, q57.2.2.2.2.2.1, q57.2.2.2.2.2.1, q57.2.2.2.2.2.2)) else (some (q57.1, s0, q57.2.1, q57.2.2.1, q57.2.2.2.1, q57.2.2.2.2.1, q57.2.2.2.2.2.1, 0, q57.2.2.2.2.2.2)))) else (some (0, s0, t_at, t_limit, t_bad, t_height, t_reckoned, t_value, m_stack))
set_option maxRecDepth 100000 in
set_option maxHeartbeats 4000000 in
theorem j_Md_reckon_34 (l : Launch) (D : va_G) (K : Nat → ClassId) (a_t a_m_bytes a_m_begins a_m_isCommon a_m_common a_m_code a_m_data a_m_back a_m_first a_m_range a_m_from a_m_to a_m_row a_m_commonRow a_m_kept a_m_stack a_m_memory a_m_registers a_m_next : Nat) {av : List Value} {w0 : va_W} (t_thrown : Int32) (t_size : Int32) (t_entries : Int32) (t_at : Int32) (t_limit : Int32) (t_bad : Int32) (t_keptRows : Int32) (t_place : Int32) (t_height : Int32) (t_reckoned : Int32) (t_value : Int32) (t_known : Int32) (t_pc : Int32) (t_unwound : Int32) (m_bytes : Nat → Int32) (m_stack : Nat → Int32) (m_memory : Nat → Int32) (m_registers : Nat → Int32) (x1 : Int32) (x2 : Int32) (x3 : Int32) (s0 : Int32) (o : Int32 × Int32 × Int32 × Int32 × Int32 × Int32 × Int32 × Int32 × (Nat → Int32)) (h : f_Md_reckon_34 t_thrown t_size t_at t_limit t_bad t_height t_reckoned t_value t_known m_bytes m_stack m_memory m_registers x1 x2 x3 s0 = some o) : Gm l y_Md_reckon b_Md_reckon 5 (some .int) { frames := 5, cells := 0, slots := 0, locals := 123 } D vwCl (xTy K) av w0 (CtF D vwCl av w0 (some (.int o.1)) [(a_t, .inr (11, [.int o.2.1, .ref a_m_bytes, .int t_size, .int t_entries, .ref a_m_begins, .ref a_m_isCommon, .ref a_m_common, .ref a_m_code, .ref a_m_data, .ref a_m_back, .ref a_m_first, .ref a_m_range, .ref a_m_from, .ref a_m_to, .int o.2.2.1, .int o.2.2.2.1, .int o.2.2.2.2.1, .ref a_m_row, .ref a_m_commonRow, .ref a_m_kept, .int t_keptRows, .int t_place, .ref a_m_stack, .int o.2.2.2.2.2.1, .int o.2.2.2.2.2.2.1, .int o.2.2.2.2.2.2.2.1, .ref a_m_memory, .ref a_m_registers, .int t_known, .int t_pc, .int t_unwound, .ref a_m_next])), (a_m_bytes, .inl (K 1, 512, .inl m_bytes)), (a_m_stack, .inl (K 1, 16, .inl o.2.2.2.2.2.2.2.2)), (a_m_memory, .inl (K 1, 256, .inl m_memory)), (a_m_registers, .inl (K 1, 8, .inl m_registers))]) 0 0 [(a_t, .inr (11, [.int t_thrown, .ref a_m_bytes, .int t_size, .int t_entries, .ref a_m_begins, .ref a_m_isCommon, .ref a_m_common, .ref a_m_code, .ref a_m_data, .ref a_m_back, .ref a_m_first, .ref a_m_range, .ref a_m_from, .ref a_m_to, .int t_at, .int t_limit, .int t_bad, .ref a_m_row, .ref a_m_commonRow, .ref a_m_kept, .int t_keptRows, .int t_place, .ref a_m_stack, .int t_height, .int t_reckoned, .int t_value, .ref a_m_memory, .ref a_m_registers, .int t_known, .int t_pc, .int t_unwound, .ref a_m_next])), (a_m_bytes, .inl (K 1, 512, .inl m_bytes)), (a_m_stack, .inl (K 1, 16, .inl m_stack)), (a_m_memory, .inl (K 1, 256, .inl m_memory)), (a_m_registers, .inl (K 1, 8, .inl m_registers))] [(0, .ref a_t), (1, .int x1), (2, .int x2), (3, .int x3)] 34 [.int s0, .ref a_t] := by
  unfold f_Md_reckon_34 at h
  refine pf_Md_69 0 rfl (v := .int s0) rfl rfl (Nat.le_of_ble_eq_true rfl) (ws' := [(a_t, .inr (11, [.int s0, .ref a_m_bytes, .int t_size, .int t_entries, .ref a_m_begins, .ref a_m_isCommon, .ref a_m_common, .ref a_m_code, .ref a_m_data, .ref a_m_back, .ref a_m_first, .ref a_m_range, .ref a_m_from, .ref a_m_to, .int t_at, .int t_limit, .int t_bad, .ref a_m_row, .ref a_m_commonRow, .ref a_m_kept, .int t_keptRows, .int t_place, .ref a_m_stack, .int t_height, .int t_reckoned, .int t_value, .ref a_m_memory, .ref a_m_registers, .int t_known, .int t_pc, .int t_unwound, .ref a_m_next])), (a_m_bytes, .inl (K 1, 512, .inl m_bytes)), (a_m_stack, .inl (K 1, 16, .inl m_stack)), (a_m_memory, .inl (K 1, 256, .inl m_memory)), (a_m_registers, .inl (K 1, 8, .inl m_registers))]) rfl d_Md_reckon_34 ?_
  refine g_aload_n d_Md_reckon_37 rfl ?_
  refine gf_Md_69 0 rfl (v := .int s0) rfl d_Md_reckon_38 ?_
  refine g_if_eq (tgt := 46) d_Md_reckon_41 (by decide) (fun hc => ?_) (fun hc => ?_)
  · replace h := it_t hc h
    refine g_aload_n d_Md_reckon_46 rfl ?_
    refine g_iconst (v := 0) d_Md_reckon_47 (by decide) ?_
    refine pf_Md_164 0 rfl (v := .int 0) rfl rfl (Nat.le_of_ble_eq_true rfl) (ws' := [(a_t, .inr (11, [.int s0, .ref a_m_bytes, .int t_size, .int t_entries, .ref a_m_begins, .ref a_m_isCommon, .ref a_m_common, .ref a_m_code, .ref a_m_data, .ref a_m_back, .ref a_m_first, .ref a_m_range, .ref a_m_from, .ref a_m_to, .int t_at, .int t_limit, .int t_bad, .ref a_m_row, .ref a_m_commonRow, .ref a_m_kept, .int t_keptRows, .int t_place, .ref a_m_stack, .int 0, .int t_reckoned, .int t_value, .ref a_m_memory, .ref a_m_registers, .int t_known, .int t_pc, .int t_unwound, .ref a_m_next])), (a_m_bytes, .inl (K 1, 512, .inl m_bytes)), (a_m_stack, .inl (K 1, 16, .inl m_stack)), (a_m_memory, .inl (K 1, 256, .inl m_memory)), (a_m_registers, .inl (K 1, 8, .inl m_registers))]) rfl d_Md_reckon_48 ?_
    refine g_aload_n d_Md_reckon_51 rfl ?_
    refine g_iload_n d_Md_reckon_52 rfl ?_
    refine g_iload_n d_Md_reckon_53 rfl ?_
    refine g_iload_n d_Md_reckon_54 rfl ?_
    refine g_iconst (v := 0) d_Md_reckon_55 (by decide) ?_
    refine g_iconst (v := 0) d_Md_reckon_56 (by decide) ?_
    obtain ⟨q57, hq57, h⟩ := it_b h
    refine g_callV (ci := 11) (q := (xR_Md, xF_Md, 32)) (As := [.int x1, .int x2, .int x3, .int 0, .int 0]) (rest := []) (st2 := [.int q57.1]) (ws2 := [(a_t, .inr (11, [.int s0, .ref a_m_bytes, .int t_size, .int t_entries, .ref a_m_begins, .ref a_m_isCommon, .ref a_m_common, .ref a_m_code, .ref a_m_data, .ref a_m_back, .ref a_m_first, .ref a_m_range, .ref a_m_from, .ref a_m_to, .int q57.2.1, .int q57.2.2.1, .int q57.2.2.2.1, .ref a_m_row, .ref a_m_commonRow, .ref a_m_kept, .int t_keptRows, .int t_place, .ref a_m_stack, .int q57.2.2.2.2.1, .int q57.2.2.2.2.2.1, .int t_value, .ref a_m_memory, .ref a_m_registers, .int t_known, .int t_pc, .int t_unwound, .ref a_m_next])), (a_m_bytes, .inl (K 1, 512, .inl m_bytes)), (a_m_stack, .inl (K 1, 16, .inl q57.2.2.2.2.2.2)), (a_m_memory, .inl (K 1, 256, .inl m_memory)), (a_m_registers, .inl (K 1, 8, .inl m_registers))]) (c_Md_evaluate l D K a_t a_m_bytes a_m_begins a_m_isCommon a_m_common a_m_code a_m_data a_m_back a_m_first a_m_range a_m_from a_m_to a_m_row a_m_commonRow a_m_kept a_m_stack a_m_memory a_m_registers a_m_next s0 t_size t_entries t_at t_limit t_bad t_keptRows t_place 0 t_reckoned t_value t_known t_pc t_unwound m_bytes m_stack m_memory m_registers x1 x2 x3 0 0 q57 hq57) (cs_Md_210 rfl rfl ⟨Nat.le_of_ble_eq_true rfl, Nat.le_of_ble_eq_true rfl⟩) rfl 0 rfl (gOver.mk2 [0, 1, 2, 3, 4] [some 0, some 1, some 2, some 3, some 4] (by decide) (by decide) rfl rfl rfl) (Nat.le_of_ble_eq_true rfl) ⟨Nat.le_of_ble_eq_true rfl, Nat.le_of_ble_eq_true rfl⟩ d_Md_reckon_57 rfl rfl ?_
    refine g_istore (L' := [(4, .int q57.1), (0, .ref a_t), (1, .int x1), (2, .int x2), (3, .int x3)]) d_Md_reckon_60 (by decide) rfl ?_
    refine g_aload_n d_Md_reckon_62 rfl ?_
    refine g_iload d_Md_reckon_63 rfl ?_
    refine g_if_ne (tgt := 75) d_Md_reckon_65 (by decide) (fun hc => ?_) (fun hc => ?_)
    · replace h := it_f hc h
      refine g_iconst (v := 0) d_Md_reckon_75 (by decide) ?_
      refine pf_Md_214 0 rfl (v := .int 0) rfl rfl (Nat.le_of_ble_eq_true rfl) (ws' := [(a_t, .inr (11, [.int s0, .ref a_m_bytes, .int t_size, .int t_entries, .ref a_m_begins, .ref a_m_isCommon, .ref a_m_common, .ref a_m_code, .ref a_m_data, .ref a_m_back, .ref a_m_first, .ref a_m_range, .ref a_m_from, .ref a_m_to, .int q57.2.1, .int q57.2.2.1, .int q57.2.2.2.1, .ref a_m_row, .ref a_m_commonRow, .ref a_m_kept, .int t_keptRows, .int t_place, .ref a_m_stack, .int q57.2.2.2.2.1, .int q57.2.2.2.2.2.1, .int 0, .ref a_m_memory, .ref a_m_registers, .int t_known, .int t_pc, .int t_unwound, .ref a_m_next])), (a_m_bytes, .inl (K 1, 512, .inl m_bytes)), (a_m_stack, .inl (K 1, 16, .inl q57.2.2.2.2.2.2)), (a_m_memory, .inl (K 1, 256, .inl m_memory)), (a_m_registers, .inl (K 1, 8, .inl m_registers))]) rfl d_Md_reckon_76 ?_
      refine g_iload d_Md_reckon_79 rfl ?_
      obtain rfl := Option.some.inj h
      exact g_iret rfl d_Md_reckon_81
    · replace h := it_t hc h
      refine g_aload_n d_Md_reckon_68 rfl ?_
      refine gf_Md_201 0 rfl (v := .int q57.2.2.2.2.2.1) rfl d_Md_reckon_69 ?_
      refine g_goto (tgt := 76) d_Md_reckon_72 (by decide) ?_
      refine pf_Md_214 0 rfl (v := .int q57.2.2.2.2.2.1) rfl rfl (Nat.le_of_ble_eq_true rfl) (ws' := [(a_t, .inr (11, [.int s0, .ref a_m_bytes, .int t_size, .int t_entries, .ref a_m_begins, .ref a_m_isCommon, .ref a_m_common, .ref a_m_code, .ref a_m_data, .ref a_m_back, .ref a_m_first, .ref a_m_range, .ref a_m_from, .ref a_m_to, .int q57.2.1, .int q57.2.2.1, .int q57.2.2.2.1, .ref a_m_row, .ref a_m_commonRow, .ref a_m_kept, .int t_keptRows, .int t_place, .ref a_m_stack, .int q57.2.2.2.2.1, .int q57.2.2.2.2.2.1, .int q57.2.2.2.2.2.1, .ref a_m_memory, .ref a_m_registers, .int t_known, .int t_pc, .int t_unwound, .ref a_m_next])), (a_m_bytes, .inl (K 1, 512, .inl m_bytes)), (a_m_stack, .inl (K 1, 16, .inl q57.2.2.2.2.2.2)), (a_m_memory, .inl (K 1, 256, .inl m_memory)), (a_m_registers, .inl (K 1, 8, .inl m_registers))]) rfl d_Md_reckon_76 ?_
      refine g_iload d_Md_reckon_79 rfl ?_
      obtain rfl := Option.some.inj h
      exact g_iret rfl d_Md_reckon_81
  · replace h := it_f hc h
    refine g_iconst (v := 0) d_Md_reckon_44 (by decide) ?_
    obtain rfl := Option.some.inj h
    exact g_iret rfl d_Md_reckon_45
def f_Md_reckon (t_thrown : Int32) (t_size : Int32) (t_at : Int32) (t_limit : Int32) (t_bad : Int32) (t_height : Int32) (t_reckoned : Int32) (t_value : Int32) (t_known : Int32) (m_bytes : Nat → Int32) (m_stack : Nat → Int32) (m_memory : Nat → Int32) (m_registers : Nat → Int32) (b1 : Int32) (e1 : Int32) (u1 : Int32) : Option (Int32 × Int32 × Int32 × Int32 × Int32 × Int32 × Int32 × Int32 × (Nat → Int32)) := if b1 < 0 then (f_Md_reckon_34 t_thrown t_size t_at t_limit t_bad t_height t_reckoned t_value t_known m_bytes m_stack m_memory m_registers b1 e1 u1 1) else (if e1 < b1 then (f_Md_reckon_34 t_thrown t_size t_at t_limit t_bad t_height t_reckoned t_value t_known m_bytes m_stack m_memory m_registers b1 e1 u1 1) else (if t_size < e1 then (f_Md_reckon_34 t_thrown t_size t_at t_limit t_bad t_height t_reckoned t_value t_known m_bytes m_stack m_memory m_registers b1 e1 u1 1) else (((f_Md_within u1 0 2000).bind fun q23 => if q23 = 0 then (f_Md_reckon_34 t_thrown t_size t_at t_limit t_bad t_height t_reckoned t_value t_known m_bytes m_stack m_memory m_registers b1 e1 u1 1) else (f_Md_reckon_34 t_thrown t_size t_at t_limit t_bad t_height t_reckoned t_value t_known m_bytes m_stack m_memory m_registers b1 e1 u1 0)))))
set_option maxRecDepth 100000 in
set_option maxHeartbeats 4000000 in
theorem c_Md_reckon (l : Launch) (D : va_G) (K : Nat → ClassId) (a_t a_m_bytes a_m_begins a_m_isCommon a_m_common a_m_code a_m_data a_m_back a_m_first a_m_range a_m_from a_m_to a_m_row a_m_commonRow a_m_kept a_m_stack a_m_memory a_m_registers a_m_next : Nat) (t_thrown : Int32) (t_size : Int32) (t_entries : Int32) (t_at : Int32) (t_limit : Int32) (t_bad : Int32) (t_keptRows : Int32) (t_place : Int32) (t_height : Int32) (t_reckoned : Int32) (t_value : Int32) (t_known : Int32) (t_pc : Int32) (t_unwound : Int32) (m_bytes : Nat → Int32) (m_stack : Nat → Int32) (m_memory : Nat → Int32) (m_registers : Nat → Int32) (b1 : Int32) (e1 : Int32) (u1 : Int32) (o : Int32 × Int32 × Int32 × Int32 × Int32 × Int32 × Int32 × Int32 × (Nat → Int32)) (h : f_Md_reckon t_thrown t_size t_at t_limit t_bad t_height t_reckoned t_value t_known m_bytes m_stack m_memory m_registers b1 e1 u1 = some o) : Ct l y_Md_reckon b_Md_reckon 5 (some .int) { frames := 5, cells := 0, slots := 0, locals := 123 } D vwCl (xTy K) [.ref a_t, .int b1, .int e1, .int u1] [(a_t, .inr (11, [.int t_thrown, .ref a_m_bytes, .int t_size, .int t_entries, .ref a_m_begins, .ref a_m_isCommon, .ref a_m_common, .ref a_m_code, .ref a_m_data, .ref a_m_back, .ref a_m_first, .ref a_m_range, .ref a_m_from, .ref a_m_to, .int t_at, .int t_limit, .int t_bad, .ref a_m_row, .ref a_m_commonRow, .ref a_m_kept, .int t_keptRows, .int t_place, .ref a_m_stack, .int t_height, .int t_reckoned, .int t_value, .ref a_m_memory, .ref a_m_registers, .int t_known, .int t_pc, .int t_unwound, .ref a_m_next])), (a_m_bytes, .inl (K 1, 512, .inl m_bytes)), (a_m_stack, .inl (K 1, 16, .inl m_stack)), (a_m_memory, .inl (K 1, 256, .inl m_memory)), (a_m_registers, .inl (K 1, 8, .inl m_registers))] (some (.int o.1)) [(a_t, .inr (11, [.int o.2.1, .ref a_m_bytes, .int t_size, .int t_entries, .ref a_m_begins, .ref a_m_isCommon, .ref a_m_common, .ref a_m_code, .ref a_m_data, .ref a_m_back, .ref a_m_first, .ref a_m_range, .ref a_m_from, .ref a_m_to, .int o.2.2.1, .int o.2.2.2.1, .int o.2.2.2.2.1, .ref a_m_row, .ref a_m_commonRow, .ref a_m_kept, .int t_keptRows, .int t_place, .ref a_m_stack, .int o.2.2.2.2.2.1, .int o.2.2.2.2.2.2.1, .int o.2.2.2.2.2.2.2.1, .ref a_m_memory, .ref a_m_registers, .int t_known, .int t_pc, .int t_unwound, .ref a_m_next])), (a_m_bytes, .inl (K 1, 512, .inl m_bytes)), (a_m_stack, .inl (K 1, 16, .inl o.2.2.2.2.2.2.2.2)), (a_m_memory, .inl (K 1, 256, .inl m_memory)), (a_m_registers, .inl (K 1, 8, .inl m_registers))] := by
  refine Ct.ofG (by decide) (Nat.le_of_ble_eq_true rfl) ?_
  refine g_L (L' := [(0, .ref a_t), (1, .int b1), (2, .int e1), (3, .int u1)]) rfl ?_
  unfold f_Md_reckon at h
  refine g_aload_n d_Md_reckon_0 rfl ?_
  refine g_iload_n d_Md_reckon_1 rfl ?_
  refine g_if_lt (tgt := 29) d_Md_reckon_2 (by decide) (fun hc => ?_) (fun hc => ?_)
  · replace h := it_t hc h
    refine g_iconst (v := 1) d_Md_reckon_29 (by decide) ?_
    refine g_goto (tgt := 34) d_Md_reckon_30 (by decide) ?_
    exact j_Md_reckon_34 l D K a_t a_m_bytes a_m_begins a_m_isCommon a_m_common a_m_code a_m_data a_m_back a_m_first a_m_range a_m_from a_m_to a_m_row a_m_commonRow a_m_kept a_m_stack a_m_memory a_m_registers a_m_next t_thrown t_size t_entries t_at t_limit t_bad t_keptRows t_place t_height t_reckoned t_value t_known t_pc t_unwound m_bytes m_stack m_memory m_registers b1 e1 u1 1 o h
  · replace h := it_f hc h
    refine g_iload_n d_Md_reckon_5 rfl ?_
    refine g_iload_n d_Md_reckon_6 rfl ?_
    refine g_icmp_lt (tgt := 29) d_Md_reckon_7 (by decide) (fun hc => ?_) (fun hc => ?_)
    · replace h := it_t hc h
      refine g_iconst (v := 1) d_Md_reckon_29 (by decide) ?_
      refine g_goto (tgt := 34) d_Md_reckon_30 (by decide) ?_
      exact j_Md_reckon_34 l D K a_t a_m_bytes a_m_begins a_m_isCommon a_m_common a_m_code a_m_data a_m_back a_m_first a_m_range a_m_from a_m_to a_m_row a_m_commonRow a_m_kept a_m_stack a_m_memory a_m_registers a_m_next t_thrown t_size t_entries t_at t_limit t_bad t_keptRows t_place t_height t_reckoned t_value t_known t_pc t_unwound m_bytes m_stack m_memory m_registers b1 e1 u1 1 o h
    · replace h := it_f hc h
      refine g_iload_n d_Md_reckon_10 rfl ?_
      refine g_aload_n d_Md_reckon_11 rfl ?_
      refine gf_Md_72 0 rfl (v := .int t_size) rfl d_Md_reckon_12 ?_
      refine g_icmp_gt (tgt := 29) d_Md_reckon_15 (by decide) (fun hc => ?_) (fun hc => ?_)
      · replace h := it_t hc h
        refine g_iconst (v := 1) d_Md_reckon_29 (by decide) ?_
        refine g_goto (tgt := 34) d_Md_reckon_30 (by decide) ?_
        exact j_Md_reckon_34 l D K a_t a_m_bytes a_m_begins a_m_isCommon a_m_common a_m_code a_m_data a_m_back a_m_first a_m_range a_m_from a_m_to a_m_row a_m_commonRow a_m_kept a_m_stack a_m_memory a_m_registers a_m_next t_thrown t_size t_entries t_at t_limit t_bad t_keptRows t_place t_height t_reckoned t_value t_known t_pc t_unwound m_bytes m_stack m_memory m_registers b1 e1 u1 1 o h
      · replace h := it_f hc h
        refine g_iload_n d_Md_reckon_18 rfl ?_
        refine g_iconst (v := 0) d_Md_reckon_19 (by decide) ?_
        refine g_sipush (v := 2000) d_Md_reckon_20 (by decide) ?_
        obtain ⟨q23, hq23, h⟩ := it_b h
        refine g_callS (As := [.int u1, .int 0, .int 2000]) (rest := [.ref a_t]) (st2 := [.int q23, .ref a_t]) (ws2 := [(a_t, .inr (11, [.int t_thrown, .ref a_m_bytes, .int t_size, .int t_entries, .ref a_m_begins, .ref a_m_isCommon, .ref a_m_common, .ref a_m_code, .ref a_m_data, .ref a_m_back, .ref a_m_first, .ref a_m_range, .ref a_m_from, .ref a_m_to, .int t_at, .int t_limit, .int t_bad, .ref a_m_row, .ref a_m_commonRow, .ref a_m_kept, .int t_keptRows, .int t_place, .ref a_m_stack, .int t_height, .int t_reckoned, .int t_value, .ref a_m_memory, .ref a_m_registers, .int t_known, .int t_pc, .int t_unwound, .ref a_m_next])), (a_m_bytes, .inl (K 1, 512, .inl m_bytes)), (a_m_stack, .inl (K 1, 16, .inl m_stack)), (a_m_memory, .inl (K 1, 256, .inl m_memory)), (a_m_registers, .inl (K 1, 8, .inl m_registers))]) (c_Md_within l D K u1 0 2000 q23 hq23) (cs_Md_75 rfl rfl ⟨Nat.le_of_ble_eq_true rfl, Nat.le_of_ble_eq_true rfl⟩) (gOver.rd [] (by decide) rfl) (Nat.le_of_ble_eq_true rfl) ⟨Nat.le_of_ble_eq_true rfl, Nat.le_of_ble_eq_true rfl⟩ d_Md_reckon_23 rfl rfl ?_
        refine g_if_ne (tgt := 33) d_Md_reckon_26 (by decide) (fun hc => ?_) (fun hc => ?_)
        · replace h := it_f hc h
          refine g_iconst (v := 0) d_Md_reckon_33 (by decide) ?_
          exact j_Md_reckon_34 l D K a_t a_m_bytes a_m_begins a_m_isCommon a_m_common a_m_code a_m_data a_m_back a_m_first a_m_range a_m_from a_m_to a_m_row a_m_commonRow a_m_kept a_m_stack a_m_memory a_m_registers a_m_next t_thrown t_size t_entries t_at t_limit t_bad t_keptRows t_place t_height t_reckoned t_value t_known t_pc t_unwound m_bytes m_stack m_memory m_registers b1 e1 u1 0 o h
        · replace h := it_t hc h
          refine g_iconst (v := 1) d_Md_reckon_29 (by decide) ?_
          refine g_goto (tgt := 34) d_Md_reckon_30 (by decide) ?_
          exact j_Md_reckon_34 l D K a_t a_m_bytes a_m_begins a_m_isCommon a_m_common a_m_code a_m_data a_m_back a_m_first a_m_range a_m_from a_m_to a_m_row a_m_commonRow a_m_kept a_m_stack a_m_memory a_m_registers a_m_next t_thrown t_size t_entries t_at t_limit t_bad t_keptRows t_place t_height t_reckoned t_value t_known t_pc t_unwound m_bytes m_stack m_memory m_registers b1 e1 u1 1 o h
def f_Md_value (t_thrown : Int32) (t_value : Int32) : Option (Int32 × Int32) := some (t_value, 0)
set_option maxRecDepth 100000 in
set_option maxHeartbeats 4000000 in
theorem c_Md_value (l : Launch) (D : va_G) (K : Nat → ClassId) (a_t a_m_bytes a_m_begins a_m_isCommon a_m_common a_m_code a_m_data a_m_back a_m_first a_m_range a_m_from a_m_to a_m_row a_m_commonRow a_m_kept a_m_stack a_m_memory a_m_registers a_m_next : Nat) (t_thrown : Int32) (t_size : Int32) (t_entries : Int32) (t_at : Int32) (t_limit : Int32) (t_bad : Int32) (t_keptRows : Int32) (t_place : Int32) (t_height : Int32) (t_reckoned : Int32) (t_value : Int32) (t_known : Int32) (t_pc : Int32) (t_unwound : Int32) (o : Int32 × Int32) (h : f_Md_value t_thrown t_value = some o) : Ct l y_Md_value b_Md_value 1 (some .int) { frames := 0, cells := 0, slots := 0, locals := 0 } D vwCl (xTy K) [.ref a_t] [(a_t, .inr (11, [.int t_thrown, .ref a_m_bytes, .int t_size, .int t_entries, .ref a_m_begins, .ref a_m_isCommon, .ref a_m_common, .ref a_m_code, .ref a_m_data, .ref a_m_back, .ref a_m_first, .ref a_m_range, .ref a_m_from, .ref a_m_to, .int t_at, .int t_limit, .int t_bad, .ref a_m_row, .ref a_m_commonRow, .ref a_m_kept, .int t_keptRows, .int t_place, .ref a_m_stack, .int t_height, .int t_reckoned, .int t_value, .ref a_m_memory, .ref a_m_registers, .int t_known, .int t_pc, .int t_unwound, .ref a_m_next]))] (some (.int o.1)) [(a_t, .inr (11, [.int o.2, .ref a_m_bytes, .int t_size, .int t_entries, .ref a_m_begins, .ref a_m_isCommon, .ref a_m_common, .ref a_m_code, .ref a_m_data, .ref a_m_back, .ref a_m_first, .ref a_m_range, .ref a_m_from, .ref a_m_to, .int t_at, .int t_limit, .int t_bad, .ref a_m_row, .ref a_m_commonRow, .ref a_m_kept, .int t_keptRows, .int t_place, .ref a_m_stack, .int t_height, .int t_reckoned, .int t_value, .ref a_m_memory, .ref a_m_registers, .int t_known, .int t_pc, .int t_unwound, .ref a_m_next]))] := by
  refine Ct.ofG (by decide) (Nat.le_of_ble_eq_true rfl) ?_
  refine g_L (L' := [(0, .ref a_t)]) rfl ?_
  unfold f_Md_value at h
  refine g_aload_n d_Md_value_0 rfl ?_
  refine g_iconst (v := 0) d_Md_value_1 (by decide) ?_
  refine pf_Md_69 0 rfl (v := .int 0) rfl rfl (Nat.le_of_ble_eq_true rfl) (ws' := [(a_t, .inr (11, [.int 0, .ref a_m_bytes, .int t_size, .int t_entries, .ref a_m_begins, .ref a_m_isCommon, .ref a_m_common, .ref a_m_code, .ref a_m_data, .ref a_m_back, .ref a_m_first, .ref a_m_range, .ref a_m_from, .ref a_m_to, .int t_at, .int t_limit, .int t_bad, .ref a_m_row, .ref a_m_commonRow, .ref a_m_kept, .int t_keptRows, .int t_place, .ref a_m_stack, .int t_height, .int t_reckoned, .int t_value, .ref a_m_memory, .ref a_m_registers, .int t_known, .int t_pc, .int t_unwound, .ref a_m_next]))]) rfl d_Md_value_2 ?_
  refine g_aload_n d_Md_value_5 rfl ?_
  refine gf_Md_214 0 rfl (v := .int t_value) rfl d_Md_value_6 ?_
  obtain rfl := Option.some.inj h
  exact g_iret rfl d_Md_value_9
def f_Md_readWord (t_reckoned : Int32) (m_memory : Nat → Int32) (a1 : Int32) : Option (Int32 × Int32) := ((f_Md_isAddress a1).bind fun q1 => if q1 = 0 then (some (4, t_reckoned)) else (if (4 : Int32) = 0 then none else if (a1 / 4) < 0 ∨ 256 ≤ (a1 / 4).toNatClampNeg then none else some (0, m_memory (a1 / 4).toNatClampNeg)))
set_option maxRecDepth 100000 in
set_option maxHeartbeats 4000000 in
theorem c_Md_readWord (l : Launch) (D : va_G) (K : Nat → ClassId) (a_t a_m_bytes a_m_begins a_m_isCommon a_m_common a_m_code a_m_data a_m_back a_m_first a_m_range a_m_from a_m_to a_m_row a_m_commonRow a_m_kept a_m_stack a_m_memory a_m_registers a_m_next : Nat) (t_thrown : Int32) (t_size : Int32) (t_entries : Int32) (t_at : Int32) (t_limit : Int32) (t_bad : Int32) (t_keptRows : Int32) (t_place : Int32) (t_height : Int32) (t_reckoned : Int32) (t_value : Int32) (t_known : Int32) (t_pc : Int32) (t_unwound : Int32) (m_memory : Nat → Int32) (a1 : Int32) (o : Int32 × Int32) (h : f_Md_readWord t_reckoned m_memory a1 = some o) : Ct l y_Md_readWord b_Md_readWord 2 (some .int) { frames := 2, cells := 0, slots := 0, locals := 42 } D vwCl (xTy K) [.ref a_t, .int a1] [(a_t, .inr (11, [.int t_thrown, .ref a_m_bytes, .int t_size, .int t_entries, .ref a_m_begins, .ref a_m_isCommon, .ref a_m_common, .ref a_m_code, .ref a_m_data, .ref a_m_back, .ref a_m_first, .ref a_m_range, .ref a_m_from, .ref a_m_to, .int t_at, .int t_limit, .int t_bad, .ref a_m_row, .ref a_m_commonRow, .ref a_m_kept, .int t_keptRows, .int t_place, .ref a_m_stack, .int t_height, .int t_reckoned, .int t_value, .ref a_m_memory, .ref a_m_registers, .int t_known, .int t_pc, .int t_unwound, .ref a_m_next])), (a_m_memory, .inl (K 1, 256, .inl m_memory))] (some (.int o.1)) [(a_t, .inr (11, [.int t_thrown, .ref a_m_bytes, .int t_size, .int t_entries, .ref a_m_begins, .ref a_m_isCommon, .ref a_m_common, .ref a_m_code, .ref a_m_data, .ref a_m_back, .ref a_m_first, .ref a_m_range, .ref a_m_from, .ref a_m_to, .int t_at, .int t_limit, .int t_bad, .ref a_m_row, .ref a_m_commonRow, .ref a_m_kept, .int t_keptRows, .int t_place, .ref a_m_stack, .int t_height, .int o.2, .int t_value, .ref a_m_memory, .ref a_m_registers, .int t_known, .int t_pc, .int t_unwound, .ref a_m_next])), (a_m_memory, .inl (K 1, 256, .inl m_memory))] := by
  refine Ct.ofG (by decide) (Nat.le_of_ble_eq_true rfl) ?_
  refine g_L (L' := [(0, .ref a_t), (1, .int a1)]) rfl ?_
  unfold f_Md_readWord at h
  refine g_iload_n d_Md_readWord_0 rfl ?_
  obtain ⟨q1, hq1, h⟩ := it_b h
  refine g_callS (As := [.int a1]) (rest := []) (st2 := [.int q1]) (ws2 := [(a_t, .inr (11, [.int t_thrown, .ref a_m_bytes, .int t_size, .int t_entries, .ref a_m_begins, .ref a_m_isCommon, .ref a_m_common, .ref a_m_code, .ref a_m_data, .ref a_m_back, .ref a_m_first, .ref a_m_range, .ref a_m_from, .ref a_m_to, .int t_at, .int t_limit, .int t_bad, .ref a_m_row, .ref a_m_commonRow, .ref a_m_kept, .int t_keptRows, .int t_place, .ref a_m_stack, .int t_height, .int t_reckoned, .int t_value, .ref a_m_memory, .ref a_m_registers, .int t_known, .int t_pc, .int t_unwound, .ref a_m_next])), (a_m_memory, .inl (K 1, 256, .inl m_memory))]) (c_Md_isAddress l D K a1 q1 hq1) (cs_Md_194 rfl rfl ⟨Nat.le_of_ble_eq_true rfl, Nat.le_of_ble_eq_true rfl⟩) (gOver.rd [] (by decide) rfl) (Nat.le_of_ble_eq_true rfl) ⟨Nat.le_of_ble_eq_true rfl, Nat.le_of_ble_eq_true rfl⟩ d_Md_readWord_1 rfl rfl ?_
  refine g_if_ne (tgt := 9) d_Md_readWord_4 (by decide) (fun hc => ?_) (fun hc => ?_)
  · replace h := it_f hc h
    refine g_aload_n d_Md_readWord_9 rfl ?_
    refine g_aload_n d_Md_readWord_10 rfl ?_
    refine gf_Md_56 0 rfl (v := .ref a_m_memory) rfl d_Md_readWord_11 ?_
    refine g_iload_n d_Md_readWord_14 rfl ?_
    refine g_iconst (v := 4) d_Md_readWord_15 (by decide) ?_
    obtain ⟨hz16, h⟩ := it_n h
    refine g_idiv d_Md_readWord_16 hz16 ?_
    obtain ⟨hi17, h⟩ := it_in h
    refine g_iald 1 1 d_Md_readWord_17 rfl rfl hi17 ?_
    refine pf_Md_201 0 rfl (v := .int (m_memory (a1 / 4).toNatClampNeg)) rfl rfl (Nat.le_of_ble_eq_true rfl) (ws' := [(a_t, .inr (11, [.int t_thrown, .ref a_m_bytes, .int t_size, .int t_entries, .ref a_m_begins, .ref a_m_isCommon, .ref a_m_common, .ref a_m_code, .ref a_m_data, .ref a_m_back, .ref a_m_first, .ref a_m_range, .ref a_m_from, .ref a_m_to, .int t_at, .int t_limit, .int t_bad, .ref a_m_row, .ref a_m_commonRow, .ref a_m_kept, .int t_keptRows, .int t_place, .ref a_m_stack, .int t_height, .int (m_memory (a1 / 4).toNatClampNeg), .int t_value, .ref a_m_memory, .ref a_m_registers, .int t_known, .int t_pc, .int t_unwound, .ref a_m_next])), (a_m_memory, .inl (K 1, 256, .inl m_memory))]) rfl d_Md_readWord_18 ?_
    refine g_iconst (v := 0) d_Md_readWord_21 (by decide) ?_
    obtain rfl := Option.some.inj h
    exact g_iret rfl d_Md_readWord_22
  · replace h := it_t hc h
    refine g_iconst (v := 4) d_Md_readWord_7 (by decide) ?_
    obtain rfl := Option.some.inj h
    exact g_iret rfl d_Md_readWord_8
