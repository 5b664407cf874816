def f_Rk_familyOf (t_hasCfa : Int32) (o1 : Int32) : Option (Int32) := ((f_Rk_isSmall o1).bind fun q1 => if q1 = 0 then (((f_Rk_isRegister o1).bind fun q8 => if q8 = 0 then (if o1 = 3 ∨ o1 = 8 ∨ o1 = 9 ∨ o1 = 10 ∨ o1 = 11 ∨ o1 = 13 ∨ o1 = 16 ∨ o1 = 17 ∨ o1 = 18 ∨ o1 = 20 ∨ o1 = 21 then (some 2) else if o1 = 6 ∨ o1 = 25 ∨ o1 = 31 ∨ o1 = 32 ∨ o1 = 35 then (some 3) else if o1 = 19 ∨ o1 = 22 ∨ o1 = 23 then (some 5) else if o1 = 40 ∨ o1 = 47 then (some 6) else if o1 = 150 then (some 1) else if o1 = 156 then (if t_hasCfa = 0 then (some 0) else (some 2)) else if o1 < 26 then (some 0) else (if 46 < o1 then (some 0) else (some 4))) else (some 2))) else (some 2))
set_option maxRecDepth 100000 in
set_option maxHeartbeats 4000000 in
theorem c_Rk_familyOf (l : Launch) (D : va_G) (K : Nat → ClassId) (a_t a_rd a_me a_fr a_sk : Nat) (t_height : Int32) (t_hasCfa : Int32) (t_cfa : Int32) (t_begins : Int32) (o1 : Int32) (o : Int32) (h : f_Rk_familyOf t_hasCfa o1 = some o) : Ct l y_Rk_familyOf b_Rk_familyOf 2 (some .int) { frames := 1, cells := 0, slots := 0, locals := 20 } D vwCl (xTy K) [.ref a_t, .int o1] [(a_t, .inr (6, [.ref a_rd, .ref a_me, .ref a_fr, .ref a_sk, .int t_height, .int t_hasCfa, .int t_cfa, .int t_begins]))] (some (.int o)) [(a_t, .inr (6, [.ref a_rd, .ref a_me, .ref a_fr, .ref a_sk, .int t_height, .int t_hasCfa, .int t_cfa, .int t_begins]))] := by
  refine Ct.ofG (by decide) (Nat.le_of_ble_eq_true rfl) ?_
  refine g_L (L' := [(0, .ref a_t), (1, .int o1)]) rfl ?_
  unfold f_Rk_familyOf at h
  refine g_iload_n d_Rk_familyOf_0 rfl ?_
  obtain ⟨q1, hq1, h⟩ := it_b h
  refine g_callS (As := [.int o1]) (rest := []) (st2 := [.int q1]) (ws2 := [(a_t, .inr (6, [.ref a_rd, .ref a_me, .ref a_fr, .ref a_sk, .int t_height, .int t_hasCfa, .int t_cfa, .int t_begins]))]) (c_Rk_isSmall l D K o1 q1 hq1) (cs_Rk_94 rfl rfl ⟨Nat.le_of_ble_eq_true rfl, Nat.le_of_ble_eq_true rfl⟩) (gOver.rd [] (by decide) rfl) (Nat.le_of_ble_eq_true rfl) ⟨Nat.le_of_ble_eq_true rfl, Nat.le_of_ble_eq_true rfl⟩ d_Rk_familyOf_1 rfl rfl ?_
  refine g_if_ne (tgt := 14) d_Rk_familyOf_4 (by decide) (fun hc => ?_) (fun hc => ?_)
  · replace h := it_f hc h
    refine g_iconst (v := 2) d_Rk_familyOf_14 (by decide) ?_
    obtain rfl := Option.some.inj h
    exact g_iret rfl d_Rk_familyOf_15
  · replace h := it_t hc h
    refine g_iload_n d_Rk_familyOf_7 rfl ?_
    obtain ⟨q8, hq8, h⟩ := it_b h
    refine g_callS (As := [.int o1]) (rest := []) (st2 := [.int q8]) (ws2 := [(a_t, .inr (6, [.ref a_rd, .ref a_me, .ref a_fr, .ref a_sk, .int t_height, .int t_hasCfa, .int t_cfa, .int t_begins]))]) (c_Rk_isRegister l D K o1 q8 hq8) (cs_Rk_98 rfl rfl ⟨Nat.le_of_ble_eq_true rfl, Nat.le_of_ble_eq_true rfl⟩) (gOver.rd [] (by decide) rfl) (Nat.le_of_ble_eq_true rfl) ⟨Nat.le_of_ble_eq_true rfl, Nat.le_of_ble_eq_true rfl⟩ d_Rk_familyOf_8 rfl rfl ?_
    refine g_if_eq (tgt := 16) d_Rk_familyOf_11 (by decide) (fun hc => ?_) (fun hc => ?_)
    · replace h := it_t hc h
      refine g_iload_n d_Rk_familyOf_16 rfl ?_
      by_cases hc17_212 : o1 = 3 ∨ o1 = 8 ∨ o1 = 9 ∨ o1 = 10 ∨ o1 = 11 ∨ o1 = 13 ∨ o1 = 16 ∨ o1 = 17 ∨ o1 = 18 ∨ o1 = 20 ∨ o1 = 21
      · replace h := it_t hc17_212 h
        refine g_lookup (off := 195) (tgt := 212) d_Rk_familyOf_17 (by decide) (by rcases hc17_212 with hc | hc | hc | hc | hc | hc | hc | hc | hc | hc | hc <;> (rw [hc]; decide +kernel)) (by decide) ?_
        refine g_iconst (v := 2) d_Rk_familyOf_212 (by decide) ?_
        obtain rfl := Option.some.inj h
        exact g_iret rfl d_Rk_familyOf_213
      replace h := it_f hc17_212 h
      by_cases hc17_227 : o1 = 6 ∨ o1 = 25 ∨ o1 = 31 ∨ o1 = 32 ∨ o1 = 35
      · replace h := it_t hc17_227 h
        refine g_lookup (off := 210) (tgt := 227) d_Rk_familyOf_17 (by decide) (by rcases hc17_227 with hc | hc | hc | hc | hc <;> (rw [hc]; decide +kernel)) (by decide) ?_
        refine g_iconst (v := 3) d_Rk_familyOf_227 (by decide) ?_
        obtain rfl := Option.some.inj h
        exact g_iret rfl d_Rk_familyOf_228
      replace h := it_f hc17_227 h
      by_cases hc17_229 : o1 = 19 ∨ o1 = 22 ∨ o1 = 23
      · replace h := it_t hc17_229 h
        refine g_lookup (off := 212) (tgt := 229) d_Rk_familyOf_17 (by decide) (by rcases hc17_229 with hc | hc | hc <;> (rw [hc]; decide +kernel)) (by decide) ?_
        refine g_iconst (v := 5) d_Rk_familyOf_229 (by decide) ?_
        obtain rfl := Option.some.inj h
        exact g_iret rfl d_Rk_familyOf_230
      replace h := it_f hc17_229 h
      by_cases hc17_231 : o1 = 40 ∨ o1 = 47
      · replace h := it_t hc17_231 h
        refine g_lookup (off := 214) (tgt := 231) d_Rk_familyOf_17 (by decide) (by rcases hc17_231 with hc | hc <;> (rw [hc]; decide +kernel)) (by decide) ?_
        refine g_bipush (v := 6) d_Rk_familyOf_231 (by decide) ?_
        obtain rfl := Option.some.inj h
        exact g_iret rfl d_Rk_familyOf_233
      replace h := it_f hc17_231 h
      by_cases hc17_234 : o1 = 150
      · replace h := it_t hc17_234 h
        refine g_lookup (off := 217) (tgt := 234) d_Rk_familyOf_17 (by decide) (by rw [hc17_234]; decide +kernel) (by decide) ?_
        refine g_iconst (v := 1) d_Rk_familyOf_234 (by decide) ?_
        obtain rfl := Option.some.inj h
        exact g_iret rfl d_Rk_familyOf_235
      replace h := it_f hc17_234 h
      by_cases hc17_214 : o1 = 156
      · replace h := it_t hc17_214 h
        refine g_lookup (off := 197) (tgt := 214) d_Rk_familyOf_17 (by decide) (by rw [hc17_214]; decide +kernel) (by decide) ?_
        refine g_aload_n d_Rk_familyOf_214 rfl ?_
        refine gf_Rk_31 0 rfl (v := .int t_hasCfa) rfl d_Rk_familyOf_215 ?_
        refine g_if_eq (tgt := 225) d_Rk_familyOf_218 (by decide) (fun hc => ?_) (fun hc => ?_)
        · replace h := it_t hc h
          refine g_iconst (v := 0) d_Rk_familyOf_225 (by decide) ?_
          obtain rfl := Option.some.inj h
          exact g_iret rfl d_Rk_familyOf_226
        · replace h := it_f hc h
          refine g_iconst (v := 2) d_Rk_familyOf_221 (by decide) ?_
          refine g_goto (tgt := 226) d_Rk_familyOf_222 (by decide) ?_
          obtain rfl := Option.some.inj h
          exact g_iret rfl d_Rk_familyOf_226
      replace h := it_f hc17_214 h
      refine g_lookup (off := 219) (tgt := 236) d_Rk_familyOf_17 (by decide) (by show Op.lookupswitch.offset _ _ _ = _; rw [lv_osw (fun z => hc17_212 (Or.inl z)) (by decide), lv_osw (fun z => hc17_227 (Or.inl z)) (by decide), lv_osw (fun z => hc17_212 (Or.inr (Or.inl z))) (by decide), lv_osw (fun z => hc17_212 (Or.inr (Or.inr (Or.inl z)))) (by decide), lv_osw (fun z => hc17_212 (Or.inr (Or.inr (Or.inr (Or.inl z))))) (by decide), lv_osw (fun z => hc17_212 (Or.inr (Or.inr (Or.inr (Or.inr (Or.inl z)))))) (by decide), lv_osw (fun z => hc17_212 (Or.inr (Or.inr (Or.inr (Or.inr (Or.inr (Or.inl z))))))) (by decide), lv_osw (fun z => hc17_212 (Or.inr (Or.inr (Or.inr (Or.inr (Or.inr (Or.inr (Or.inl z)))))))) (by decide), lv_osw (fun z => hc17_212 (Or.inr (Or.inr (Or.inr (Or.inr (Or.inr (Or.inr (Or.inr (Or.inl z))))))))) (by decide), lv_osw (fun z => hc17_212 (Or.inr (Or.inr (Or.inr (Or.inr (Or.inr (Or.inr (Or.inr (Or.inr (Or.inl z)))))))))) (by decide), lv_osw (fun z => hc17_229 (Or.inl z)) (by decide), lv_osw (fun z => hc17_212 (Or.inr (Or.inr (Or.inr (Or.inr (Or.inr (Or.inr (Or.inr (Or.inr (Or.inr (Or.inl z))))))))))) (by decide), lv_osw (fun z => hc17_212 (Or.inr (Or.inr (Or.inr (Or.inr (Or.inr (Or.inr (Or.inr (Or.inr (Or.inr (Or.inr z))))))))))) (by decide), lv_osw (fun z => hc17_229 (Or.inr (Or.inl z))) (by decide), lv_osw (fun z => hc17_229 (Or.inr (Or.inr z))) (by decide), lv_osw (fun z => hc17_227 (Or.inr (Or.inl z))) (by decide), lv_osw (fun z => hc17_227 (Or.inr (Or.inr (Or.inl z)))) (by decide), lv_osw (fun z => hc17_227 (Or.inr (Or.inr (Or.inr (Or.inl z))))) (by decide), lv_osw (fun z => hc17_227 (Or.inr (Or.inr (Or.inr (Or.inr z))))) (by decide), lv_osw (fun z => hc17_231 (Or.inl z)) (by decide), lv_osw (fun z => hc17_231 (Or.inr z)) (by decide), lv_osw hc17_234 (by decide), lv_osw hc17_214 (by decide)]; rfl) (by decide) ?_
      refine g_iload_n d_Rk_familyOf_236 rfl ?_
      refine g_bipush (v := 26) d_Rk_familyOf_237 (by decide) ?_
      refine g_icmp_lt (tgt := 252) d_Rk_familyOf_239 (by decide) (fun hc => ?_) (fun hc => ?_)
      · replace h := it_t hc h
        refine g_iconst (v := 0) d_Rk_familyOf_252 (by decide) ?_
        obtain rfl := Option.some.inj h
        exact g_iret rfl d_Rk_familyOf_253
      · replace h := it_f hc h
        refine g_iload_n d_Rk_familyOf_242 rfl ?_
        refine g_bipush (v := 46) d_Rk_familyOf_243 (by decide) ?_
        refine g_icmp_gt (tgt := 252) d_Rk_familyOf_245 (by decide) (fun hc => ?_) (fun hc => ?_)
        · replace h := it_t hc h
          refine g_iconst (v := 0) d_Rk_familyOf_252 (by decide) ?_
          obtain rfl := Option.some.inj h
          exact g_iret rfl d_Rk_familyOf_253
        · replace h := it_f hc h
          refine g_iconst (v := 4) d_Rk_familyOf_248 (by decide) ?_
          refine g_goto (tgt := 253) d_Rk_familyOf_249 (by decide) ?_
          obtain rfl := Option.some.inj h
          exact g_iret rfl d_Rk_familyOf_253
    · replace h := it_f hc h
      refine g_iconst (v := 2) d_Rk_familyOf_14 (by decide) ?_
      obtain rfl := Option.some.inj h
      exact g_iret rfl d_Rk_familyOf_15
def f_Rk_operandOf (rd_at : Int32) (rd_limit : Int32) (rd_broken : Int32) (bb : Nat → Int32) (o1 : Int32) : Option (Int32 × Int32 × Int32) := ((f_Rk_isRegister o1).bind fun q1 => if q1 = 0 then (if o1 = 3 ∨ o1 = 13 then (((f_Rd_unsigned rd_at rd_limit rd_broken bb 4).bind fun q253 => some (q253.1, q253.2.1, q253.2.2))) else if o1 = 8 ∨ o1 = 21 then (((f_Rd_unsigned rd_at rd_limit rd_broken bb 1).bind fun q217 => some (q217.1, q217.2.1, q217.2.2))) else if o1 = 9 then (((f_Rd_signed rd_at rd_limit rd_broken bb 1).bind fun q226 => some (q226.1, q226.2.1, q226.2.2))) else if o1 = 10 then (((f_Rd_unsigned rd_at rd_limit rd_broken bb 2).bind fun q235 => some (q235.1, q235.2.1, q235.2.2))) else if o1 = 11 ∨ o1 = 40 ∨ o1 = 47 then (((f_Rd_signed rd_at rd_limit rd_broken bb 2).bind fun q244 => some (q244.1, q244.2.1, q244.2.2))) else if o1 = 16 ∨ o1 = 35 then (((f_Rd_uleb rd_at rd_limit rd_broken bb).bind fun q261 => some (q261.1, q261.2.1, q261.2.2))) else if o1 = 17 then (((f_Rd_sleb rd_at rd_limit rd_broken bb).bind fun q269 => some (q269.1, q269.2.1, q269.2.2))) else some (0, rd_at, rd_broken)) else (((f_Rd_sleb rd_at rd_limit rd_broken bb).bind fun q11 => some (q11.1, q11.2.1, q11.2.2))))
set_option maxRecDepth 100000 in
set_option maxHeartbeats 4000000 in
theorem c_Rk_operandOf (l : Launch) (D : va_G) (K : Nat → ClassId) (a_t a_rd a_bb a_me a_fr a_sk : Nat) (t_height : Int32) (t_hasCfa : Int32) (t_cfa : Int32) (t_begins : Int32) (rd_at : Int32) (rd_limit : Int32) (rd_broken : Int32) (bb : Nat → Int32) (o1 : Int32) (o : Int32 × Int32 × Int32) (h : f_Rk_operandOf rd_at rd_limit rd_broken bb o1 = some o) : Ct l y_Rk_operandOf b_Rk_operandOf 2 (some .int) { frames := 2, cells := 0, slots := 0, locals := 46 } D vwCl (xTy K) [.ref a_t, .int o1] [(a_t, .inr (6, [.ref a_rd, .ref a_me, .ref a_fr, .ref a_sk, .int t_height, .int t_hasCfa, .int t_cfa, .int t_begins])), (a_rd, .inr (5, [.ref a_bb, .int rd_at, .int rd_limit, .int rd_broken])), (a_bb, .inl (K 0, 512, .inl bb))] (some (.int o.1)) [(a_t, .inr (6, [.ref a_rd, .ref a_me, .ref a_fr, .ref a_sk, .int t_height, .int t_hasCfa, .int t_cfa, .int t_begins])), (a_rd, .inr (5, [.ref a_bb, .int o.2.1, .int rd_limit, .int o.2.2])), (a_bb, .inl (K 0, 512, .inl bb))] := by
  refine Ct.ofG (by decide) (Nat.le_of_ble_eq_true rfl) ?_
  refine g_L (L' := [(0, .ref a_t), (1, .int o1)]) rfl ?_
  unfold f_Rk_operandOf at h
  refine g_iload_n d_Rk_operandOf_0 rfl ?_
  obtain ⟨q1, hq1, h⟩ := it_b h
  refine g_callS (As := [.int o1]) (rest := []) (st2 := [.int q1]) (ws2 := [(a_t, .inr (6, [.ref a_rd, .ref a_me, .ref a_fr, .ref a_sk, .int t_height, .int t_hasCfa, .int t_cfa, .int t_begins])), (a_rd, .inr (5, [.ref a_bb, .int rd_at, .int rd_limit, .int rd_broken])), (a_bb, .inl (K 0, 512, .inl bb))]) (c_Rk_isRegister l D K o1 q1 hq1) (cs_Rk_98 rfl rfl ⟨Nat.le_of_ble_eq_true rfl, Nat.le_of_ble_eq_true rfl⟩) (gOver.rd [] (by decide) rfl) (Nat.le_of_ble_eq_true rfl) ⟨Nat.le_of_ble_eq_true rfl, Nat.le_of_ble_eq_true rfl⟩ d_Rk_operandOf_1 rfl rfl ?_
  refine g_if_eq (tgt := 15) d_Rk_operandOf_4 (by decide) (fun hc => ?_) (fun hc => ?_)
  · replace h := it_t hc h
    refine g_iload_n d_Rk_operandOf_15 rfl ?_
    by_cases hc16_248 : o1 = 3 ∨ o1 = 13
    · replace h := it_t hc16_248 h
      refine g_table (off := 232) (tgt := 248) d_Rk_operandOf_16 (by decide) (by rcases hc16_248 with hc | hc <;> (rw [hc]; decide +kernel)) (by decide) ?_
      refine g_aload_n d_Rk_operandOf_248 rfl ?_
      refine gf_Rk_9 0 rfl (v := .ref a_rd) rfl d_Rk_operandOf_249 ?_
      refine g_iconst (v := 4) d_Rk_operandOf_252 (by decide) ?_
      obtain ⟨q253, hq253, h⟩ := it_b h
      refine g_callV (ci := 5) (q := (xR_Rd, xF_Rd, 4)) (As := [.int 4]) (rest := []) (st2 := [.int q253.1]) (ws2 := [(a_t, .inr (6, [.ref a_rd, .ref a_me, .ref a_fr, .ref a_sk, .int t_height, .int t_hasCfa, .int t_cfa, .int t_begins])), (a_rd, .inr (5, [.ref a_bb, .int q253.2.1, .int rd_limit, .int q253.2.2])), (a_bb, .inl (K 0, 512, .inl bb))]) (c_Rd_unsigned l D K a_rd a_bb rd_at rd_limit rd_broken bb 4 q253 hq253) (cs_Rk_61 rfl rfl ⟨Nat.le_of_ble_eq_true rfl, Nat.le_of_ble_eq_true rfl⟩) rfl 1 rfl (gOver.mk2 [1, 2] [none, some 0, some 1] (by decide) (by decide) rfl rfl rfl) (Nat.le_of_ble_eq_true rfl) ⟨Nat.le_of_ble_eq_true rfl, Nat.le_of_ble_eq_true rfl⟩ d_Rk_operandOf_253 rfl rfl ?_
      obtain rfl := Option.some.inj h
      exact g_iret rfl d_Rk_operandOf_256
    replace h := it_f hc16_248 h
    by_cases hc16_212 : o1 = 8 ∨ o1 = 21
    · replace h := it_t hc16_212 h
      refine g_table (off := 196) (tgt := 212) d_Rk_operandOf_16 (by decide) (by rcases hc16_212 with hc | hc <;> (rw [hc]; decide +kernel)) (by decide) ?_
      refine g_aload_n d_Rk_operandOf_212 rfl ?_
      refine gf_Rk_9 0 rfl (v := .ref a_rd) rfl d_Rk_operandOf_213 ?_
      refine g_iconst (v := 1) d_Rk_operandOf_216 (by decide) ?_
      obtain ⟨q217, hq217, h⟩ := it_b h
      refine g_callV (ci := 5) (q := (xR_Rd, xF_Rd, 4)) (As := [.int 1]) (rest := []) (st2 := [.int q217.1]) (ws2 := [(a_t, .inr (6, [.ref a_rd, .ref a_me, .ref a_fr, .ref a_sk, .int t_height, .int t_hasCfa, .int t_cfa, .int t_begins])), (a_rd, .inr (5, [.ref a_bb, .int q217.2.1, .int rd_limit, .int q217.2.2])), (a_bb, .inl (K 0, 512, .inl bb))]) (c_Rd_unsigned l D K a_rd a_bb rd_at rd_limit rd_broken bb 1 q217 hq217) (cs_Rk_61 rfl rfl ⟨Nat.le_of_ble_eq_true rfl, Nat.le_of_ble_eq_true rfl⟩) rfl 1 rfl (gOver.mk2 [1, 2] [none, some 0, some 1] (by decide) (by decide) rfl rfl rfl) (Nat.le_of_ble_eq_true rfl) ⟨Nat.le_of_ble_eq_true rfl, Nat.le_of_ble_eq_true rfl⟩ d_Rk_operandOf_217 rfl rfl ?_
      obtain rfl := Option.some.inj h
      exact g_iret rfl d_Rk_operandOf_220
    replace h := it_f hc16_212 h
    by_cases hc16_221 : o1 = 9
    · replace h := it_t hc16_221 h
      refine g_table (off := 205) (tgt := 221) d_Rk_operandOf_16 (by decide) (by rw [hc16_221]; decide +kernel) (by decide) ?_
      refine g_aload_n d_Rk_operandOf_221 rfl ?_
      refine gf_Rk_9 0 rfl (v := .ref a_rd) rfl d_Rk_operandOf_222 ?_
      refine g_iconst (v := 1) d_Rk_operandOf_225 (by decide) ?_
      obtain ⟨q226, hq226, h⟩ := it_b h
      refine g_callV (ci := 5) (q := (xR_Rd, xF_Rd, 4)) (As := [.int 1]) (rest := []) (st2 := [.int q226.1]) (ws2 := [(a_t, .inr (6, [.ref a_rd, .ref a_me, .ref a_fr, .ref a_sk, .int t_height, .int t_hasCfa, .int t_cfa, .int t_begins])), (a_rd, .inr (5, [.ref a_bb, .int q226.2.1, .int rd_limit, .int q226.2.2])), (a_bb, .inl (K 0, 512, .inl bb))]) (c_Rd_signed l D K a_rd a_bb rd_at rd_limit rd_broken bb 1 q226 hq226) (cs_Rk_104 rfl rfl ⟨Nat.le_of_ble_eq_true rfl, Nat.le_of_ble_eq_true rfl⟩) rfl 1 rfl (gOver.mk2 [1, 2] [none, some 0, some 1] (by decide) (by decide) rfl rfl rfl) (Nat.le_of_ble_eq_true rfl) ⟨Nat.le_of_ble_eq_true rfl, Nat.le_of_ble_eq_true rfl⟩ d_Rk_operandOf_226 rfl rfl ?_
      obtain rfl := Option.some.inj h
      exact g_iret rfl d_Rk_operandOf_229
    replace h := it_f hc16_221 h
    by_cases hc16_230 : o1 = 10
    · replace h := it_t hc16_230 h
      refine g_table (off := 214) (tgt := 230) d_Rk_operandOf_16 (by decide) (by rw [hc16_230]; decide +kernel) (by decide) ?_
      refine g_aload_n d_Rk_operandOf_230 rfl ?_
      refine gf_Rk_9 0 rfl (v := .ref a_rd) rfl d_Rk_operandOf_231 ?_
      refine g_iconst (v := 2) d_Rk_operandOf_234 (by decide) ?_
      obtain ⟨q235, hq235, h⟩ := it_b h
      refine g_callV (ci := 5) (q := (xR_Rd, xF_Rd, 4)) (As := [.int 2]) (rest := []) (st2 := [.int q235.1]) (ws2 := [(a_t, .inr (6, [.ref a_rd, .ref a_me, .ref a_fr, .ref a_sk, .int t_height, .int t_hasCfa, .int t_cfa, .int t_begins])), (a_rd, .inr (5, [.ref a_bb, .int q235.2.1, .int rd_limit, .int q235.2.2])), (a_bb, .inl (K 0, 512, .inl bb))]) (c_Rd_unsigned l D K a_rd a_bb rd_at rd_limit rd_broken bb 2 q235 hq235) (cs_Rk_61 rfl rfl ⟨Nat.le_of_ble_eq_true rfl, Nat.le_of_ble_eq_true rfl⟩) rfl 1 rfl (gOver.mk2 [1, 2] [none, some 0, some 1] (by decide) (by decide) rfl rfl rfl) (Nat.le_of_ble_eq_true rfl) ⟨Nat.le_of_ble_eq_true rfl, Nat.le_of_ble_eq_true rfl⟩ d_Rk_operandOf_235 rfl rfl ?_
      obtain rfl := Option.some.inj h
      exact g_iret rfl d_Rk_operandOf_238
    replace h := it_f hc16_230 h
    by_cases hc16_239 : o1 = 11 ∨ o1 = 40 ∨ o1 = 47
    · replace h := it_t hc16_239 h
      refine g_table (off := 223) (tgt := 239) d_Rk_operandOf_16 (by decide) (by rcases hc16_239 with hc | hc | hc <;> (rw [hc]; decide +kernel)) (by decide) ?_
      refine g_aload_n d_Rk_operandOf_239 rfl ?_
      refine gf_Rk_9 0 rfl (v := .ref a_rd) rfl d_Rk_operandOf_240 ?_
      refine g_iconst (v := 2) d_Rk_operandOf_243 (by decide) ?_
      obtain ⟨q244, hq244, h⟩ := it_b h
      refine g_callV (ci := 5) (q := (xR_Rd, xF_Rd, 4)) (As := [.int 2]) (rest := []) (st2 := [.int q244.1]) (ws2 := [(a_t, .inr (6, [.ref a_rd, .ref a_me, .ref a_fr, .ref a_sk, .int t_height, .int t_hasCfa, .int t_cfa, .int t_begins])), (a_rd, .inr (5, [.ref a_bb, .int q244.2.1, .int rd_limit, .int q244.2.2])), (a_bb, .inl (K 0, 512, .inl bb))]) (c_Rd_signed l D K a_rd a_bb rd_at rd_limit rd_broken bb 2 q244 hq244) (cs_Rk_104 rfl rfl ⟨Nat.le_of_ble_eq_true rfl, Nat.le_of_ble_eq_true rfl⟩) rfl 1 rfl (gOver.mk2 [1, 2] [none, some 0, some 1] (by decide) (by decide) rfl rfl rfl) (Nat.le_of_ble_eq_true rfl) ⟨Nat.le_of_ble_eq_true rfl, Nat.le_of_ble_eq_true rfl⟩ d_Rk_operandOf_244 rfl rfl ?_
      obtain rfl := Option.some.inj h
      exact g_iret rfl d_Rk_operandOf_247
    replace h := it_f hc16_239 h
    by_cases hc16_257 : o1 = 16 ∨ o1 = 35
    · replace h := it_t hc16_257 h
      refine g_table (off := 241) (tgt := 257) d_Rk_operandOf_16 (by decide) (by rcases hc16_257 with hc | hc <;> (rw [hc]; decide +kernel)) (by decide) ?_
      refine g_aload_n d_Rk_operandOf_257 rfl ?_
      refine gf_Rk_9 0 rfl (v := .ref a_rd) rfl d_Rk_operandOf_258 ?_
      obtain ⟨q261, hq261, h⟩ := it_b h
      refine g_callV (ci := 5) (q := (xR_Rd, xF_Rd, 4)) (As := []) (rest := []) (st2 := [.int q261.1]) (ws2 := [(a_t, .inr (6, [.ref a_rd, .ref a_me, .ref a_fr, .ref a_sk, .int t_height, .int t_hasCfa, .int t_cfa, .int t_begins])), (a_rd, .inr (5, [.ref a_bb, .int q261.2.1, .int rd_limit, .int q261.2.2])), (a_bb, .inl (K 0, 512, .inl bb))]) (c_Rd_uleb l D K a_rd a_bb rd_at rd_limit rd_broken bb q261 hq261) (cs_Rk_107 rfl rfl ⟨Nat.le_of_ble_eq_true rfl, Nat.le_of_ble_eq_true rfl⟩) rfl 1 rfl (gOver.mk2 [1, 2] [none, some 0, some 1] (by decide) (by decide) rfl rfl rfl) (Nat.le_of_ble_eq_true rfl) ⟨Nat.le_of_ble_eq_true rfl, Nat.le_of_ble_eq_true rfl⟩ d_Rk_operandOf_261 rfl rfl ?_
      obtain rfl := Option.some.inj h
      exact g_iret rfl d_Rk_operandOf_264
    replace h := it_f hc16_257 h
    by_cases hc16_265 : o1 = 17
    · replace h := it_t hc16_265 h
      refine g_table (off := 249) (tgt := 265) d_Rk_operandOf_16 (by decide) (by rw [hc16_265]; decide +kernel) (by decide) ?_
      refine g_aload_n d_Rk_operandOf_265 rfl ?_
      refine gf_Rk_9 0 rfl (v := .ref a_rd) rfl d_Rk_operandOf_266 ?_
      obtain ⟨q269, hq269, h⟩ := it_b h
      refine g_callV (ci := 5) (q := (xR_Rd, xF_Rd, 4)) (As := []) (rest := []) (st2 := [.int q269.1]) (ws2 := [(a_t, .inr (6, [.ref a_rd, .ref a_me, .ref a_fr, .ref a_sk, .int t_height, .int t_hasCfa, .int t_cfa, .int t_begins])), (a_rd, .inr (5, [.ref a_bb, .int q269.2.1, .int rd_limit, .int q269.2.2])), (a_bb, .inl (K 0, 512, .inl bb))]) (c_Rd_sleb l D K a_rd a_bb rd_at rd_limit rd_broken bb q269 hq269) (cs_Rk_101 rfl rfl ⟨Nat.le_of_ble_eq_true rfl, Nat.le_of_ble_eq_true rfl⟩) rfl 1 rfl (gOver.mk2 [1, 2] [none, some 0, some 1] (by decide) (by decide) rfl rfl rfl) (Nat.le_of_ble_eq_true rfl) ⟨Nat.le_of_ble_eq_true rfl, Nat.le_of_ble_eq_true rfl⟩ d_Rk_operandOf_269 rfl rfl ?_
      obtain rfl := Option.some.inj h
      exact g_iret rfl d_Rk_operandOf_272
    replace h := it_f hc16_265 h
    refine g_table (off := 257) (tgt := 273) d_Rk_operandOf_16 (by decide) (by simp only [gTabL]; rw [lv_osw (fun z => hc16_248 (Or.inl z)) (by decide)]; refine gsw_d ?_; refine gsw_d ?_; refine gsw_d ?_; refine gsw_d ?_; rw [lv_osw (fun z => hc16_212 (Or.inl z)) (by decide)]; rw [lv_osw hc16_221 (by decide)]; rw [lv_osw hc16_230 (by decide)]; rw [lv_osw (fun z => hc16_239 (Or.inl z)) (by decide)]; refine gsw_d ?_; rw [lv_osw (fun z => hc16_248 (Or.inr z)) (by decide)]; refine gsw_d ?_; refine gsw_d ?_; rw [lv_osw (fun z => hc16_257 (Or.inl z)) (by decide)]; rw [lv_osw hc16_265 (by decide)]; refine gsw_d ?_; refine gsw_d ?_; refine gsw_d ?_; rw [lv_osw (fun z => hc16_212 (Or.inr z)) (by decide)]; refine gsw_d ?_; refine gsw_d ?_; refine gsw_d ?_; refine gsw_d ?_; refine gsw_d ?_; refine gsw_d ?_; refine gsw_d ?_; refine gsw_d ?_; refine gsw_d ?_; refine gsw_d ?_; refine gsw_d ?_; refine gsw_d ?_; refine gsw_d ?_; rw [lv_osw (fun z => hc16_257 (Or.inr z)) (by decide)]; refine gsw_d ?_; refine gsw_d ?_; refine gsw_d ?_; refine gsw_d ?_; rw [lv_osw (fun z => hc16_239 (Or.inr (Or.inl z))) (by decide)]; refine gsw_d ?_; refine gsw_d ?_; refine gsw_d ?_; refine gsw_d ?_; refine gsw_d ?_; refine gsw_d ?_; rw [lv_osw (fun z => hc16_239 (Or.inr (Or.inr z))) (by decide)]; rfl) (by decide) ?_
    refine g_iconst (v := 0) d_Rk_operandOf_273 (by decide) ?_
    obtain rfl := Option.some.inj h
    exact g_iret rfl d_Rk_operandOf_274
  · replace h := it_f hc h
    refine g_aload_n d_Rk_operandOf_7 rfl ?_
    refine gf_Rk_9 0 rfl (v := .ref a_rd) rfl d_Rk_operandOf_8 ?_
    obtain ⟨q11, hq11, h⟩ := it_b h
    refine g_callV (ci := 5) (q := (xR_Rd, xF_Rd, 4)) (As := []) (rest := []) (st2 := [.int q11.1]) (ws2 := [(a_t, .inr (6, [.ref a_rd, .ref a_me, .ref a_fr, .ref a_sk, .int t_height, .int t_hasCfa, .int t_cfa, .int t_begins])), (a_rd, .inr (5, [.ref a_bb, .int q11.2.1, .int rd_limit, .int q11.2.2])), (a_bb, .inl (K 0, 512, .inl bb))]) (c_Rd_sleb l D K a_rd a_bb rd_at rd_limit rd_broken bb q11 hq11) (cs_Rk_101 rfl rfl ⟨Nat.le_of_ble_eq_true rfl, Nat.le_of_ble_eq_true rfl⟩) rfl 1 rfl (gOver.mk2 [1, 2] [none, some 0, some 1] (by decide) (by decide) rfl rfl rfl) (Nat.le_of_ble_eq_true rfl) ⟨Nat.le_of_ble_eq_true rfl, Nat.le_of_ble_eq_true rfl⟩ d_Rk_operandOf_11 rfl rfl ?_
    obtain rfl := Option.some.inj h
    exact g_iret rfl d_Rk_operandOf_14
def f_Rk_pushFor (t_height : Int32) (t_cfa : Int32) (fr_known : Int32) (fv : Nat → Int32) (sk : Nat → Int32) (o1 : Int32) (d1 : Int32) : Option (Int32 × Int32 × (Nat → Int32)) := ((f_Rk_depthOfCopy o1 d1).bind fun q2 => if q2 < 0 then (((f_Rk_isSmall o1).bind fun q31 => if q31 = 0 then (if o1 = 156 then (((f_Rk_push t_height sk t_cfa).bind fun q60 => some (0, q60.1, q60.2))) else (((f_Rk_isRegister o1).bind fun q67 => if q67 = 0 then (((f_Rk_push t_height sk d1).bind fun q114 => some (0, q114.1, q114.2))) else (((f_Fr_knows fr_known (o1 - 112)).bind fun q85 => if q85 = 0 then (some (4, t_height, sk)) else (if (o1 - 112) < 0 ∨ 8 ≤ (o1 - 112).toNatClampNeg then none else ((f_Rk_push t_height sk ((fv (o1 - 112).toNatClampNeg) + d1)).bind fun q106 => some (0, q106.1, q106.2)))))))) else (((f_Rk_push t_height sk (o1 - 48)).bind fun q42 => some (0, q42.1, q42.2))))) else (if ((t_height - 1) - q2) < 0 ∨ 16 ≤ ((t_height - 1) - q2).toNatClampNeg then none else ((f_Rk_push t_height sk (sk ((t_height - 1) - q2).toNatClampNeg)).bind fun q24 => some (0, q24.1, q24.2))))
set_option maxRecDepth 100000 in
set_option maxHeartbeats 4000000 in
theorem c_Rk_pushFor (l : Launch) (D : va_G) (K : Nat → ClassId) (a_t a_rd a_me a_fr a_fv a_sk : Nat) (t_height : Int32) (t_hasCfa : Int32) (t_cfa : Int32) (t_begins : Int32) (fr_known : Int32) (fr_pc : Int32) (fr_unwound : Int32) (fv : Nat → Int32) (sk : Nat → Int32) (o1 : Int32) (d1 : Int32) (o : Int32 × Int32 × (Nat → Int32)) (h : f_Rk_pushFor t_height t_cfa fr_known fv sk o1 d1 = some o) : Ct l y_Rk_pushFor b_Rk_pushFor 5 (some .int) { frames := 1, cells := 0, slots := 0, locals := 21 } D vwCl (xTy K) [.ref a_t, .int o1, .int d1] [(a_t, .inr (6, [.ref a_rd, .ref a_me, .ref a_fr, .ref a_sk, .int t_height, .int t_hasCfa, .int t_cfa, .int t_begins])), (a_fr, .inr (1, [.ref a_fv, .int fr_known, .int fr_pc, .int fr_unwound])), (a_fv, .inl (K 1, 8, .inl fv)), (a_sk, .inl (K 1, 16, .inl sk))] (some (.int o.1)) [(a_t, .inr (6, [.ref a_rd, .ref a_me, .ref a_fr, .ref a_sk, .int o.2.1, .int t_hasCfa, .int t_cfa, .int t_begins])), (a_fr, .inr (1, [.ref a_fv, .int fr_known, .int fr_pc, .int fr_unwound])), (a_fv, .inl (K 1, 8, .inl fv)), (a_sk, .inl (K 1, 16, .inl o.2.2))] := by
  refine Ct.ofG (by decide) (Nat.le_of_ble_eq_true rfl) ?_
  refine g_L (L' := [(0, .ref a_t), (1, .int o1), (2, .int d1)]) rfl ?_
  unfold f_Rk_pushFor at h
  refine g_iload_n d_Rk_pushFor_0 rfl ?_
  refine g_iload_n d_Rk_pushFor_1 rfl ?_
  obtain ⟨q2, hq2, h⟩ := it_b h
  refine g_callS (As := [.int o1, .int d1]) (rest := []) (st2 := [.int q2]) (ws2 := [(a_t, .inr (6, [.ref a_rd, .ref a_me, .ref a_fr, .ref a_sk, .int t_height, .int t_hasCfa, .int t_cfa, .int t_begins])), (a_fr, .inr (1, [.ref a_fv, .int fr_known, .int fr_pc, .int fr_unwound])), (a_fv, .inl (K 1, 8, .inl fv)), (a_sk, .inl (K 1, 16, .inl sk))]) (c_Rk_depthOfCopy l D K o1 d1 q2 hq2) (cs_Rk_110 rfl rfl ⟨Nat.le_of_ble_eq_true rfl, Nat.le_of_ble_eq_true rfl⟩) (gOver.rd [] (by decide) rfl) (Nat.le_of_ble_eq_true rfl) ⟨Nat.le_of_ble_eq_true rfl, Nat.le_of_ble_eq_true rfl⟩ d_Rk_pushFor_2 rfl rfl ?_
  refine g_istore_n (L' := [(3, .int q2), (0, .ref a_t), (1, .int o1), (2, .int d1)]) d_Rk_pushFor_5 (by decide) rfl ?_
  refine g_iload_n d_Rk_pushFor_6 rfl ?_
  refine g_if_lt (tgt := 30) d_Rk_pushFor_7 (by decide) (fun hc => ?_) (fun hc => ?_)
  · replace h := it_t hc h
    refine g_iload_n d_Rk_pushFor_30 rfl ?_
    obtain ⟨q31, hq31, h⟩ := it_b h
    refine g_callS (As := [.int o1]) (rest := []) (st2 := [.int q31]) (ws2 := [(a_t, .inr (6, [.ref a_rd, .ref a_me, .ref a_fr, .ref a_sk, .int t_height, .int t_hasCfa, .int t_cfa, .int t_begins])), (a_fr, .inr (1, [.ref a_fv, .int fr_known, .int fr_pc, .int fr_unwound])), (a_fv, .inl (K 1, 8, .inl fv)), (a_sk, .inl (K 1, 16, .inl sk))]) (c_Rk_isSmall l D K o1 q31 hq31) (cs_Rk_94 rfl rfl ⟨Nat.le_of_ble_eq_true rfl, Nat.le_of_ble_eq_true rfl⟩) (gOver.rd [] (by decide) rfl) (Nat.le_of_ble_eq_true rfl) ⟨Nat.le_of_ble_eq_true rfl, Nat.le_of_ble_eq_true rfl⟩ d_Rk_pushFor_31 rfl rfl ?_
    refine g_if_eq (tgt := 48) d_Rk_pushFor_34 (by decide) (fun hc => ?_) (fun hc => ?_)
    · replace h := it_t hc h
      refine g_iload_n d_Rk_pushFor_48 rfl ?_
      refine g_sipush (v := 156) d_Rk_pushFor_49 (by decide) ?_
      refine g_icmp_ne (tgt := 66) d_Rk_pushFor_52 (by decide) (fun hc => ?_) (fun hc => ?_)
      · replace h := it_f hc h
        refine g_iload_n d_Rk_pushFor_66 rfl ?_
        obtain ⟨q67, hq67, h⟩ := it_b h
        refine g_callS (As := [.int o1]) (rest := []) (st2 := [.int q67]) (ws2 := [(a_t, .inr (6, [.ref a_rd, .ref a_me, .ref a_fr, .ref a_sk, .int t_height, .int t_hasCfa, .int t_cfa, .int t_begins])), (a_fr, .inr (1, [.ref a_fv, .int fr_known, .int fr_pc, .int fr_unwound])), (a_fv, .inl (K 1, 8, .inl fv)), (a_sk, .inl (K 1, 16, .inl sk))]) (c_Rk_isRegister l D K o1 q67 hq67) (cs_Rk_98 rfl rfl ⟨Nat.le_of_ble_eq_true rfl, Nat.le_of_ble_eq_true rfl⟩) (gOver.rd [] (by decide) rfl) (Nat.le_of_ble_eq_true rfl) ⟨Nat.le_of_ble_eq_true rfl, Nat.le_of_ble_eq_true rfl⟩ d_Rk_pushFor_67 rfl rfl ?_
        refine g_if_eq (tgt := 112) d_Rk_pushFor_70 (by decide) (fun hc => ?_) (fun hc => ?_)
        · replace h := it_t hc h
          refine g_aload_n d_Rk_pushFor_112 rfl ?_
          refine g_iload_n d_Rk_pushFor_113 rfl ?_
          obtain ⟨q114, hq114, h⟩ := it_b h
          refine g_callV (ci := 6) (q := (xR_Rk, xF_Rk, 8)) (As := [.int d1]) (rest := []) (st2 := []) (ws2 := [(a_t, .inr (6, [.ref a_rd, .ref a_me, .ref a_fr, .ref a_sk, .int q114.1, .int t_hasCfa, .int t_cfa, .int t_begins])), (a_fr, .inr (1, [.ref a_fv, .int fr_known, .int fr_pc, .int fr_unwound])), (a_fv, .inl (K 1, 8, .inl fv)), (a_sk, .inl (K 1, 16, .inl q114.2))]) (c_Rk_push l D K a_t a_rd a_me a_fr a_sk t_height t_hasCfa t_cfa t_begins sk d1 q114 hq114) (cs_Rk_38 rfl rfl ⟨Nat.le_of_ble_eq_true rfl, Nat.le_of_ble_eq_true rfl⟩) rfl 0 rfl (gOver.mk2 [0, 3] [some 0, none, none, some 1] (by decide) (by decide) rfl rfl rfl) (Nat.le_of_ble_eq_true rfl) ⟨Nat.le_of_ble_eq_true rfl, Nat.le_of_ble_eq_true rfl⟩ d_Rk_pushFor_114 rfl rfl ?_
          refine g_iconst (v := 0) d_Rk_pushFor_117 (by decide) ?_
          obtain rfl := Option.some.inj h
          exact g_iret rfl d_Rk_pushFor_118
        · replace h := it_f hc h
          refine g_iload_n d_Rk_pushFor_73 rfl ?_
          refine g_bipush (v := 112) d_Rk_pushFor_74 (by decide) ?_
          refine g_isub d_Rk_pushFor_76 ?_
          refine g_istore (L' := [(4, .int (o1 - 112)), (3, .int q2), (0, .ref a_t), (1, .int o1), (2, .int d1)]) d_Rk_pushFor_77 (by decide) rfl ?_
          refine g_aload_n d_Rk_pushFor_79 rfl ?_
          refine gf_Rk_19 0 rfl (v := .ref a_fr) rfl d_Rk_pushFor_80 ?_
          refine g_iload d_Rk_pushFor_83 rfl ?_
          obtain ⟨q85, hq85, h⟩ := it_b h
          refine g_callV (ci := 1) (q := (xR_Fr, xF_Fr, 4)) (As := [.int (o1 - 112)]) (rest := []) (st2 := [.int q85]) (ws2 := [(a_t, .inr (6, [.ref a_rd, .ref a_me, .ref a_fr, .ref a_sk, .int t_height, .int t_hasCfa, .int t_cfa, .int t_begins])), (a_fr, .inr (1, [.ref a_fv, .int fr_known, .int fr_pc, .int fr_unwound])), (a_fv, .inl (K 1, 8, .inl fv)), (a_sk, .inl (K 1, 16, .inl sk))]) (c_Fr_knows l D K a_fr a_fv fr_known fr_pc fr_unwound (o1 - 112) q85 hq85) (cs_Rk_113 rfl rfl ⟨Nat.le_of_ble_eq_true rfl, Nat.le_of_ble_eq_true rfl⟩) rfl 1 rfl (gOver.rd [1] (by decide) rfl) (Nat.le_of_ble_eq_true rfl) ⟨Nat.le_of_ble_eq_true rfl, Nat.le_of_ble_eq_true rfl⟩ d_Rk_pushFor_85 rfl rfl ?_
          refine g_if_ne (tgt := 93) d_Rk_pushFor_88 (by decide) (fun hc => ?_) (fun hc => ?_)
          · replace h := it_f hc h
            refine g_aload_n d_Rk_pushFor_93 rfl ?_
            refine g_aload_n d_Rk_pushFor_94 rfl ?_
            refine gf_Rk_19 0 rfl (v := .ref a_fr) rfl d_Rk_pushFor_95 ?_
            refine gf_Rk_118 1 rfl (v := .ref a_fv) rfl d_Rk_pushFor_98 ?_
            refine g_iload d_Rk_pushFor_101 rfl ?_
            obtain ⟨hi103, h⟩ := it_in h
            refine g_iald 2 1 d_Rk_pushFor_103 rfl rfl hi103 ?_
            refine g_iload_n d_Rk_pushFor_104 rfl ?_
            refine g_iadd d_Rk_pushFor_105 ?_
            obtain ⟨q106, hq106, h⟩ := it_b h
            refine g_callV (ci := 6) (q := (xR_Rk, xF_Rk, 8)) (As := [.int ((fv (o1 - 112).toNatClampNeg) + d1)]) (rest := []) (st2 := []) (ws2 := [(a_t, .inr (6, [.ref a_rd, .ref a_me, .ref a_fr, .ref a_sk, .int q106.1, .int t_hasCfa, .int t_cfa, .int t_begins])), (a_fr, .inr (1, [.ref a_fv, .int fr_known, .int fr_pc, .int fr_unwound])), (a_fv, .inl (K 1, 8, .inl fv)), (a_sk, .inl (K 1, 16, .inl q106.2))]) (c_Rk_push l D K a_t a_rd a_me a_fr a_sk t_height t_hasCfa t_cfa t_begins sk ((fv (o1 - 112).toNatClampNeg) + d1) q106 hq106) (cs_Rk_38 rfl rfl ⟨Nat.le_of_ble_eq_true rfl, Nat.le_of_ble_eq_true rfl⟩) rfl 0 rfl (gOver.mk2 [0, 3] [some 0, none, none, some 1] (by decide) (by decide) rfl rfl rfl) (Nat.le_of_ble_eq_true rfl) ⟨Nat.le_of_ble_eq_true rfl, Nat.le_of_ble_eq_true rfl⟩ d_Rk_pushFor_106 rfl rfl ?_
            refine g_goto (tgt := 117) d_Rk_pushFor_109 (by decide) ?_
            refine g_iconst (v := 0) d_Rk_pushFor_117 (by decide) ?_
            obtain rfl := Option.some.inj h
            exact g_iret rfl d_Rk_pushFor_118
          · replace h := it_t hc h
            refine g_iconst (v := 4) d_Rk_pushFor_91 (by decide) ?_
            obtain rfl := Option.some.inj h
            exact g_iret rfl d_Rk_pushFor_92
      · replace h := it_t hc h
        refine g_aload_n d_Rk_pushFor_55 rfl ?_
        refine g_aload_n d_Rk_pushFor_56 rfl ?_
        refine gf_Rk_35 0 rfl (v := .int t_cfa) rfl d_Rk_pushFor_57 ?_
        obtain ⟨q60, hq60, h⟩ := it_b h
        refine g_callV (ci := 6) (q := (xR_Rk, xF_Rk, 8)) (As := [.int t_cfa]) (rest := []) (st2 := []) (ws2 := [(a_t, .inr (6, [.ref a_rd, .ref a_me, .ref a_fr, .ref a_sk, .int q60.1, .int t_hasCfa, .int t_cfa, .int t_begins])), (a_fr, .inr (1, [.ref a_fv, .int fr_known, .int fr_pc, .int fr_unwound])), (a_fv, .inl (K 1, 8, .inl fv)), (a_sk, .inl (K 1, 16, .inl q60.2))]) (c_Rk_push l D K a_t a_rd a_me a_fr a_sk t_height t_hasCfa t_cfa t_begins sk t_cfa q60 hq60) (cs_Rk_38 rfl rfl ⟨Nat.le_of_ble_eq_true rfl, Nat.le_of_ble_eq_true rfl⟩) rfl 0 rfl (gOver.mk2 [0, 3] [some 0, none, none, some 1] (by decide) (by decide) rfl rfl rfl) (Nat.le_of_ble_eq_true rfl) ⟨Nat.le_of_ble_eq_true rfl, Nat.le_of_ble_eq_true rfl⟩ d_Rk_pushFor_60 rfl rfl ?_
        refine g_goto (tgt := 117) d_Rk_pushFor_63 (by decide) ?_
        refine g_iconst (v := 0) d_Rk_pushFor_117 (by decide) ?_
        obtain rfl := Option.some.inj h
        exact g_iret rfl d_Rk_pushFor_118
    · replace h := it_f hc h
      refine g_aload_n d_Rk_pushFor_37 rfl ?_
      refine g_iload_n d_Rk_pushFor_38 rfl ?_
      refine g_bipush (v := 48) d_Rk_pushFor_39 (by decide) ?_
      refine g_isub d_Rk_pushFor_41 ?_
      obtain ⟨q42, hq42, h⟩ := it_b h
      refine g_callV (ci := 6) (q := (xR_Rk, xF_Rk, 8)) (As := [.int (o1 - 48)]) (rest := []) (st2 := []) (ws2 := [(a_t, .inr (6, [.ref a_rd, .ref a_me, .ref a_fr, .ref a_sk, .int q42.1, .int t_hasCfa, .int t_cfa, .int t_begins])), (a_fr, .inr (1, [.ref a_fv, .int fr_known, .int fr_pc, .int fr_unwound])), (a_fv, .inl (K 1, 8, .inl fv)), (a_sk, .inl (K 1, 16, .inl q42.2))]) (c_Rk_push l D K a_t a_rd a_me a_fr a_sk t_height t_hasCfa t_cfa t_begins sk (o1 - 48) q42 hq42) (cs_Rk_38 rfl rfl ⟨Nat.le_of_ble_eq_true rfl, Nat.le_of_ble_eq_true rfl⟩) rfl 0 rfl (gOver.mk2 [0, 3] [some 0, none, none, some 1] (by decide) (by decide) rfl rfl rfl) (Nat.le_of_ble_eq_true rfl) ⟨Nat.le_of_ble_eq_true rfl, Nat.le_of_ble_eq_true rfl⟩ d_Rk_pushFor_42 rfl rfl ?_
      refine g_goto (tgt := 117) d_Rk_pushFor_45 (by decide) ?_
      refine g_iconst (v := 0) d_Rk_pushFor_117 (by decide) ?_
      obtain rfl := Option.some.inj h
      exact g_iret rfl d_Rk_pushFor_118
  · replace h := it_f hc h
    refine g_aload_n d_Rk_pushFor_10 rfl ?_
    refine g_aload_n d_Rk_pushFor_11 rfl ?_
    refine gf_Rk_23 0 rfl (v := .ref a_sk) rfl d_Rk_pushFor_12 ?_
    refine g_aload_n d_Rk_pushFor_15 rfl ?_
    refine gf_Rk_27 0 rfl (v := .int t_height) rfl d_Rk_pushFor_16 ?_
    refine g_iconst (v := 1) d_Rk_pushFor_19 (by decide) ?_
    refine g_isub d_Rk_pushFor_20 ?_
    refine g_iload_n d_Rk_pushFor_21 rfl ?_
    refine g_isub d_Rk_pushFor_22 ?_
    obtain ⟨hi23, h⟩ := it_in h
    refine g_iald 3 1 d_Rk_pushFor_23 rfl rfl hi23 ?_
    obtain ⟨q24, hq24, h⟩ := it_b h
    refine g_callV (ci := 6) (q := (xR_Rk, xF_Rk, 8)) (As := [.int (sk ((t_height - 1) - q2).toNatClampNeg)]) (rest := []) (st2 := []) (ws2 := [(a_t, .inr (6, [.ref a_rd, .ref a_me, .ref a_fr, .ref a_sk, .int q24.1, .int t_hasCfa, .int t_cfa, .int t_begins])), (a_fr, .inr (1, [.ref a_fv, .int fr_known, .int fr_pc, .int fr_unwound])), (a_fv, .inl (K 1, 8, .inl fv)), (a_sk, .inl (K 1, 16, .inl q24.2))]) (c_Rk_push l D K a_t a_rd a_me a_fr a_sk t_height t_hasCfa t_cfa t_begins sk (sk ((t_height - 1) - q2).toNatClampNeg) q24 hq24) (cs_Rk_38 rfl rfl ⟨Nat.le_of_ble_eq_true rfl, Nat.le_of_ble_eq_true rfl⟩) rfl 0 rfl (gOver.mk2 [0, 3] [some 0, none, none, some 1] (by decide) (by decide) rfl rfl rfl) (Nat.le_of_ble_eq_true rfl) ⟨Nat.le_of_ble_eq_true rfl, Nat.le_of_ble_eq_true rfl⟩ d_Rk_pushFor_24 rfl rfl ?_
    refine g_goto (tgt := 117) d_Rk_pushFor_27 (by decide) ?_
    refine g_iconst (v := 0) d_Rk_pushFor_117 (by decide) ?_
    obtain rfl := Option.some.inj h
    exact g_iret rfl d_Rk_pushFor_118
def f_Rk_changeTop (t_height : Int32) (mw : Nat → Int32) (sk : Nat → Int32) (o1 : Int32) (d1 : Int32) : Option (Int32 × (Nat → Int32)) := if (t_height - 1) < 0 ∨ 16 ≤ (t_height - 1).toNatClampNeg then none else if o1 = 6 then (((f_Me_has (sk (t_height - 1).toNatClampNeg)).bind fun q61 => if q61 = 0 then (some (4, sk)) else (((f_Me_load mw (sk (t_height - 1).toNatClampNeg)).bind fun q74 => if (t_height - 1) < 0 ∨ 16 ≤ (t_height - 1).toNatClampNeg then none else some (0, upd sk (t_height - 1).toNatClampNeg q74))))) else if o1 = 25 then (if 0 ≤ (sk (t_height - 1).toNatClampNeg) then (if (t_height - 1) < 0 ∨ 16 ≤ (t_height - 1).toNatClampNeg then none else some (0, upd sk (t_height - 1).toNatClampNeg (sk (t_height - 1).toNatClampNeg))) else (if (t_height - 1) < 0 ∨ 16 ≤ (t_height - 1).toNatClampNeg then none else some (0, upd sk (t_height - 1).toNatClampNeg (-(sk (t_height - 1).toNatClampNeg))))) else if o1 = 31 then (if (t_height - 1) < 0 ∨ 16 ≤ (t_height - 1).toNatClampNeg then none else some (0, upd sk (t_height - 1).toNatClampNeg (-(sk (t_height - 1).toNatClampNeg)))) else if o1 = 32 then (if (t_height - 1) < 0 ∨ 16 ≤ (t_height - 1).toNatClampNeg then none else some (0, upd sk (t_height - 1).toNatClampNeg ((sk (t_height - 1).toNatClampNeg) ^^^ (-1)))) else if (t_height - 1) < 0 ∨ 16 ≤ (t_height - 1).toNatClampNeg then none else some (0, upd sk (t_height - 1).toNatClampNeg ((sk (t_height - 1).toNatClampNeg) + d1))
set_option maxRecDepth 100000 in
set_option maxHeartbeats 4000000 in
theorem c_Rk_changeTop (l : Launch) (D : va_G) (K : Nat → ClassId) (a_t a_rd a_me a_mw a_fr a_sk : Nat) (t_height : Int32) (t_hasCfa : Int32) (t_cfa : Int32) (t_begins : Int32) (mw : Nat → Int32) (sk : Nat → Int32) (o1 : Int32) (d1 : Int32) (o : Int32 × (Nat → Int32)) (h : f_Rk_changeTop t_height mw sk o1 d1 = some o) : Ct l y_Rk_changeTop b_Rk_changeTop 4 (some .int) { frames := 1, cells := 0, slots := 0, locals := 21 } D vwCl (xTy K) [.ref a_t, .int o1, .int d1] [(a_t, .inr (6, [.ref a_rd, .ref a_me, .ref a_fr, .ref a_sk, .int t_height, .int t_hasCfa, .int t_cfa, .int t_begins])), (a_me, .inr (4, [.ref a_mw])), (a_mw, .inl (K 1, 256, .inl mw)), (a_sk, .inl (K 1, 16, .inl sk))] (some (.int o.1)) [(a_t, .inr (6, [.ref a_rd, .ref a_me, .ref a_fr, .ref a_sk, .int t_height, .int t_hasCfa, .int t_cfa, .int t_begins])), (a_me, .inr (4, [.ref a_mw])), (a_mw, .inl (K 1, 256, .inl mw)), (a_sk, .inl (K 1, 16, .inl o.2))] := by
  refine Ct.ofG (by decide) (Nat.le_of_ble_eq_true rfl) ?_
  refine g_L (L' := [(0, .ref a_t), (1, .int o1), (2, .int d1)]) rfl ?_
  unfold f_Rk_changeTop at h
  refine g_aload_n d_Rk_changeTop_0 rfl ?_
  refine gf_Rk_23 0 rfl (v := .ref a_sk) rfl d_Rk_changeTop_1 ?_
  refine g_aload_n d_Rk_changeTop_4 rfl ?_
  refine gf_Rk_27 0 rfl (v := .int t_height) rfl d_Rk_changeTop_5 ?_
  refine g_iconst (v := 1) d_Rk_changeTop_8 (by decide) ?_
  refine g_isub d_Rk_changeTop_9 ?_
  obtain ⟨hi10, h⟩ := it_in h
  refine g_iald 3 1 d_Rk_changeTop_10 rfl rfl hi10 ?_
  refine g_istore_n (L' := [(3, .int (sk (t_height - 1).toNatClampNeg)), (0, .ref a_t), (1, .int o1), (2, .int d1)]) d_Rk_changeTop_11 (by decide) rfl ?_
  refine g_iload_n d_Rk_changeTop_12 rfl ?_
  by_cases hc13_56 : o1 = 6
  · replace h := it_t hc13_56 h
    refine g_lookup (off := 43) (tgt := 56) d_Rk_changeTop_13 (by decide) (by rw [hc13_56]; decide +kernel) (by decide) ?_
    refine g_aload_n d_Rk_changeTop_56 rfl ?_
    refine gf_Rk_15 0 rfl (v := .ref a_me) rfl d_Rk_changeTop_57 ?_
    refine g_iload_n d_Rk_changeTop_60 rfl ?_
    obtain ⟨q61, hq61, h⟩ := it_b h
    refine g_callV (ci := 4) (q := (xR_Me, xF_Me, 1)) (As := [.int (sk (t_height - 1).toNatClampNeg)]) (rest := []) (st2 := [.int q61]) (ws2 := [(a_t, .inr (6, [.ref a_rd, .ref a_me, .ref a_fr, .ref a_sk, .int t_height, .int t_hasCfa, .int t_cfa, .int t_begins])), (a_me, .inr (4, [.ref a_mw])), (a_mw, .inl (K 1, 256, .inl mw)), (a_sk, .inl (K 1, 16, .inl sk))]) (c_Me_has l D K a_me (sk (t_height - 1).toNatClampNeg) q61 hq61) (cs_Rk_121 rfl rfl ⟨Nat.le_of_ble_eq_true rfl, Nat.le_of_ble_eq_true rfl⟩) rfl 1 rfl (gOver.rd [] (by decide) rfl) (Nat.le_of_ble_eq_true rfl) ⟨Nat.le_of_ble_eq_true rfl, Nat.le_of_ble_eq_true rfl⟩ d_Rk_changeTop_61 rfl rfl ?_
    refine g_if_ne (tgt := 69) d_Rk_changeTop_64 (by decide) (fun hc => ?_) (fun hc => ?_)
    · replace h := it_f hc h
      refine g_aload_n d_Rk_changeTop_69 rfl ?_
      refine gf_Rk_15 0 rfl (v := .ref a_me) rfl d_Rk_changeTop_70 ?_
      refine g_iload_n d_Rk_changeTop_73 rfl ?_
      obtain ⟨q74, hq74, h⟩ := it_b h
      refine g_callV (ci := 4) (q := (xR_Me, xF_Me, 1)) (As := [.int (sk (t_height - 1).toNatClampNeg)]) (rest := []) (st2 := [.int q74]) (ws2 := [(a_t, .inr (6, [.ref a_rd, .ref a_me, .ref a_fr, .ref a_sk, .int t_height, .int t_hasCfa, .int t_cfa, .int t_begins])), (a_me, .inr (4, [.ref a_mw])), (a_mw, .inl (K 1, 256, .inl mw)), (a_sk, .inl (K 1, 16, .inl sk))]) (c_Me_load l D K a_me a_mw mw (sk (t_height - 1).toNatClampNeg) q74 hq74) (cs_Rk_126 rfl rfl ⟨Nat.le_of_ble_eq_true rfl, Nat.le_of_ble_eq_true rfl⟩) rfl 1 rfl (gOver.rd [1, 2] (by decide) rfl) (Nat.le_of_ble_eq_true rfl) ⟨Nat.le_of_ble_eq_true rfl, Nat.le_of_ble_eq_true rfl⟩ d_Rk_changeTop_74 rfl rfl ?_
      refine g_istore_n (L' := [(3, .int q74), (0, .ref a_t), (1, .int o1), (2, .int d1)]) d_Rk_changeTop_77 (by decide) rfl ?_
      refine g_goto (tgt := 112) d_Rk_changeTop_78 (by decide) ?_
      refine g_aload_n d_Rk_changeTop_112 rfl ?_
      refine gf_Rk_23 0 rfl (v := .ref a_sk) rfl d_Rk_changeTop_113 ?_
      refine g_aload_n d_Rk_changeTop_116 rfl ?_
      refine gf_Rk_27 0 rfl (v := .int t_height) rfl d_Rk_changeTop_117 ?_
      refine g_iconst (v := 1) d_Rk_changeTop_120 (by decide) ?_
      refine g_isub d_Rk_changeTop_121 ?_
      refine g_iload_n d_Rk_changeTop_122 rfl ?_
      obtain ⟨hi123, h⟩ := it_in h
      refine g_iast 3 1 (ws' := [(a_t, .inr (6, [.ref a_rd, .ref a_me, .ref a_fr, .ref a_sk, .int t_height, .int t_hasCfa, .int t_cfa, .int t_begins])), (a_me, .inr (4, [.ref a_mw])), (a_mw, .inl (K 1, 256, .inl mw)), (a_sk, .inl (K 1, 16, .inl (upd sk (t_height - 1).toNatClampNeg q74)))]) d_Rk_changeTop_123 rfl rfl hi123 rfl ?_
      refine g_iconst (v := 0) d_Rk_changeTop_124 (by decide) ?_
      obtain rfl := Option.some.inj h
      exact g_iret rfl d_Rk_changeTop_125
    · replace h := it_t hc h
      refine g_iconst (v := 4) d_Rk_changeTop_67 (by decide) ?_
      obtain rfl := Option.some.inj h
      exact g_iret rfl d_Rk_changeTop_68
  replace h := it_f hc13_56 h
  by_cases hc13_81 : o1 = 25
  · replace h := it_t hc13_81 h
    refine g_lookup (off := 68) (tgt := 81) d_Rk_changeTop_13 (by decide) (by rw [hc13_81]; decide +kernel) (by decide) ?_
    refine g_iload_n d_Rk_changeTop_81 rfl ?_
    refine g_if_ge (tgt := 90) d_Rk_changeTop_82 (by decide) (fun hc => ?_) (fun hc => ?_)
    · replace h := it_t hc h
      refine g_iload_n d_Rk_changeTop_90 rfl ?_
      refine g_istore_n (L' := [(3, .int (sk (t_height - 1).toNatClampNeg)), (0, .ref a_t), (1, .int o1), (2, .int d1)]) d_Rk_changeTop_91 (by decide) rfl ?_
      refine g_goto (tgt := 112) d_Rk_changeTop_92 (by decide) ?_
      refine g_aload_n d_Rk_changeTop_112 rfl ?_
      refine gf_Rk_23 0 rfl (v := .ref a_sk) rfl d_Rk_changeTop_113 ?_
      refine g_aload_n d_Rk_changeTop_116 rfl ?_
      refine gf_Rk_27 0 rfl (v := .int t_height) rfl d_Rk_changeTop_117 ?_
      refine g_iconst (v := 1) d_Rk_changeTop_120 (by decide) ?_
      refine g_isub d_Rk_changeTop_121 ?_
      refine g_iload_n d_Rk_changeTop_122 rfl ?_
      obtain ⟨hi123, h⟩ := it_in h
      refine g_iast 3 1 (ws' := [(a_t, .inr (6, [.ref a_rd, .ref a_me, .ref a_fr, .ref a_sk, .int t_height, .int t_hasCfa, .int t_cfa, .int t_begins])), (a_me, .inr (4, [.ref a_mw])), (a_mw, .inl (K 1, 256, .inl mw)), (a_sk, .inl (K 1, 16, .inl (upd sk (t_height - 1).toNatClampNeg (sk (t_height - 1).toNatClampNeg))))]) d_Rk_changeTop_123 rfl rfl hi123 rfl ?_
      refine g_iconst (v := 0) d_Rk_changeTop_124 (by decide) ?_
      obtain rfl := Option.some.inj h
      exact g_iret rfl d_Rk_changeTop_125
    · replace h := it_f hc h
      refine g_iload_n d_Rk_changeTop_85 rfl ?_
      refine g_ineg d_Rk_changeTop_86 ?_
      refine g_goto (tgt := 91) d_Rk_changeTop_87 (by decide) ?_
      refine g_istore_n (L' := [(3, .int (-(sk (t_height - 1).toNatClampNeg))), (0, .ref a_t), (1, .int o1), (2, .int d1)]) d_Rk_changeTop_91 (by decide) rfl ?_
      refine g_goto (tgt := 112) d_Rk_changeTop_92 (by decide) ?_
      refine g_aload_n d_Rk_changeTop_112 rfl ?_
      refine gf_Rk_23 0 rfl (v := .ref a_sk) rfl d_Rk_changeTop_113 ?_
      refine g_aload_n d_Rk_changeTop_116 rfl ?_
      refine gf_Rk_27 0 rfl (v := .int t_height) rfl d_Rk_changeTop_117 ?_
      refine g_iconst (v := 1) d_Rk_changeTop_120 (by decide) ?_
      refine g_isub d_Rk_changeTop_121 ?_
      refine g_iload_n d_Rk_changeTop_122 rfl ?_
      obtain ⟨hi123, h⟩ := it_in h
      refine g_iast 3 1 (ws' := [(a_t, .inr (6, [.ref a_rd, .ref a_me, .ref a_fr, .ref a_sk, .int t_height, .int t_hasCfa, .int t_cfa, .int t_begins])), (a_me, .inr (4, [.ref a_mw])), (a_mw, .inl (K 1, 256, .inl mw)), (a_sk, .inl (K 1, 16, .inl (upd sk (t_height - 1).toNatClampNeg (-(sk (t_height - 1).toNatClampNeg)))))]) d_Rk_changeTop_123 rfl rfl hi123 rfl ?_
      refine g_iconst (v := 0) d_Rk_changeTop_124 (by decide) ?_
      obtain rfl := Option.some.inj h
      exact g_iret rfl d_Rk_changeTop_125
  replace h := it_f hc13_81 h
  by_cases hc13_95 : o1 = 31
  · replace h := it_t hc13_95 h
    refine g_lookup (off := 82) (tgt := 95) d_Rk_changeTop_13 (by decide) (by rw [hc13_95]; decide +kernel) (by decide) ?_
    refine g_iload_n d_Rk_changeTop_95 rfl ?_
    refine g_ineg d_Rk_changeTop_96 ?_
    refine g_istore_n (L' := [(3, .int (-(sk (t_height - 1).toNatClampNeg))), (0, .ref a_t), (1, .int o1), (2, .int d1)]) d_Rk_changeTop_97 (by decide) rfl ?_
    refine g_goto (tgt := 112) d_Rk_changeTop_98 (by decide) ?_
    refine g_aload_n d_Rk_changeTop_112 rfl ?_
    refine gf_Rk_23 0 rfl (v := .ref a_sk) rfl d_Rk_changeTop_113 ?_
    refine g_aload_n d_Rk_changeTop_116 rfl ?_
    refine gf_Rk_27 0 rfl (v := .int t_height) rfl d_Rk_changeTop_117 ?_
    refine g_iconst (v := 1) d_Rk_changeTop_120 (by decide) ?_
    refine g_isub d_Rk_changeTop_121 ?_
    refine g_iload_n d_Rk_changeTop_122 rfl ?_
    obtain ⟨hi123, h⟩ := it_in h
    refine g_iast 3 1 (ws' := [(a_t, .inr (6, [.ref a_rd, .ref a_me, .ref a_fr, .ref a_sk, .int t_height, .int t_hasCfa, .int t_cfa, .int t_begins])), (a_me, .inr (4, [.ref a_mw])), (a_mw, .inl (K 1, 256, .inl mw)), (a_sk, .inl (K 1, 16, .inl (upd sk (t_height - 1).toNatClampNeg (-(sk (t_height - 1).toNatClampNeg)))))]) d_Rk_changeTop_123 rfl rfl hi123 rfl ?_
    refine g_iconst (v := 0) d_Rk_changeTop_124 (by decide) ?_
    obtain rfl := Option.some.inj h
    exact g_iret rfl d_Rk_changeTop_125
  replace h := it_f hc13_95 h
  by_cases hc13_101 : o1 = 32
  · replace h := it_t hc13_101 h
    refine g_lookup (off := 88) (tgt := 101) d_Rk_changeTop_13 (by decide) (by rw [hc13_101]; decide +kernel) (by decide) ?_
    refine g_iload_n d_Rk_changeTop_101 rfl ?_
    refine g_iconst (v := (-1)) d_Rk_changeTop_102 (by decide) ?_
    refine g_ixor d_Rk_changeTop_103 ?_
    refine g_istore_n (L' := [(3, .int ((sk (t_height - 1).toNatClampNeg) ^^^ (-1))), (0, .ref a_t), (1, .int o1), (2, .int d1)]) d_Rk_changeTop_104 (by decide) rfl ?_
    refine g_goto (tgt := 112) d_Rk_changeTop_105 (by decide) ?_
    refine g_aload_n d_Rk_changeTop_112 rfl ?_
    refine gf_Rk_23 0 rfl (v := .ref a_sk) rfl d_Rk_changeTop_113 ?_
    refine g_aload_n d_Rk_changeTop_116 rfl ?_
    refine gf_Rk_27 0 rfl (v := .int t_height) rfl d_Rk_changeTop_117 ?_
    refine g_iconst (v := 1) d_Rk_changeTop_120 (by decide) ?_
    refine g_isub d_Rk_changeTop_121 ?_
    refine g_iload_n d_Rk_changeTop_122 rfl ?_
    obtain ⟨hi123, h⟩ := it_in h
    refine g_iast 3 1 (ws' := [(a_t, .inr (6, [.ref a_rd, .ref a_me, .ref a_fr, .ref a_sk, .int t_height, .int t_hasCfa, .int t_cfa, .int t_begins])), (a_me, .inr (4, [.ref a_mw])), (a_mw, .inl (K 1, 256, .inl mw)), (a_sk, .inl (K 1, 16, .inl (upd sk (t_height - 1).toNatClampNeg ((sk (t_height - 1).toNatClampNeg) ^^^ (-1)))))]) d_Rk_changeTop_123 rfl rfl hi123 rfl ?_
    refine g_iconst (v := 0) d_Rk_changeTop_124 (by decide) ?_
    obtain rfl := Option.some.inj h
    exact g_iret rfl d_Rk_changeTop_125
  replace h := it_f hc13_101 h
  refine g_lookup (off := 95) (tgt := 108) d_Rk_changeTop_13 (by decide) (by show Op.lookupswitch.offset _ _ _ = _; rw [lv_osw hc13_56 (by decide), lv_osw hc13_81 (by decide), lv_osw hc13_95 (by decide), lv_osw hc13_101 (by decide)]; rfl) (by decide) ?_
  refine g_iload_n d_Rk_changeTop_108 rfl ?_
  refine g_iload_n d_Rk_changeTop_109 rfl ?_
  refine g_iadd d_Rk_changeTop_110 ?_
  refine g_istore_n (L' := [(3, .int ((sk (t_height - 1).toNatClampNeg) + d1)), (0, .ref a_t), (1, .int o1), (2, .int d1)]) d_Rk_changeTop_111 (by decide) rfl ?_
  refine g_aload_n d_Rk_changeTop_112 rfl ?_
  refine gf_Rk_23 0 rfl (v := .ref a_sk) rfl d_Rk_changeTop_113 ?_
  refine g_aload_n d_Rk_changeTop_116 rfl ?_
  refine gf_Rk_27 0 rfl (v := .int t_height) rfl d_Rk_changeTop_117 ?_
  refine g_iconst (v := 1) d_Rk_changeTop_120 (by decide) ?_
  refine g_isub d_Rk_changeTop_121 ?_
  refine g_iload_n d_Rk_changeTop_122 rfl ?_
  obtain ⟨hi123, h⟩ := it_in h
  refine g_iast 3 1 (ws' := [(a_t, .inr (6, [.ref a_rd, .ref a_me, .ref a_fr, .ref a_sk, .int t_height, .int t_hasCfa, .int t_cfa, .int t_begins])), (a_me, .inr (4, [.ref a_mw])), (a_mw, .inl (K 1, 256, .inl mw)), (a_sk, .inl (K 1, 16, .inl (upd sk (t_height - 1).toNatClampNeg ((sk (t_height - 1).toNatClampNeg) + d1))))]) d_Rk_changeTop_123 rfl rfl hi123 rfl ?_
  refine g_iconst (v := 0) d_Rk_changeTop_124 (by decide) ?_
  obtain rfl := Option.some.inj h
  exact g_iret rfl d_Rk_changeTop_125
def f_Rk_joinTwo_42 (t_height : Int32) (sk : Nat → Int32) (x1 : Int32) (x2 : Int32) (x3 : Int32) : Option (Int32 × Int32 × (Nat → Int32)) := if x1 < 41 then (((f_Rk_joined x1 x3 x2).bind fun q80 => if ((t_height - 1) - 1) < 0 ∨ 16 ≤ ((t_height - 1) - 1).toNatClampNeg then none else some (0, t_height - 1, upd sk ((t_height - 1) - 1).toNatClampNeg q80))) else (((f_Rk_compared x1 x3 x2).bind fun q71 => if ((t_height - 1) - 1) < 0 ∨ 16 ≤ ((t_height - 1) - 1).toNatClampNeg then none else some (0, t_height - 1, upd sk ((t_height - 1) - 1).toNatClampNeg q71)))
set_option maxRecDepth 100000 in
set_option maxHeartbeats 4000000 in
theorem j_Rk_joinTwo_42 (l : Launch) (D : va_G) (K : Nat → ClassId) (a_t a_rd a_me a_fr a_sk : Nat) {av : List Value} {w0 : va_W} (t_height : Int32) (t_hasCfa : Int32) (t_cfa : Int32) (t_begins : Int32) (sk : Nat → Int32) (x1 : Int32) (x2 : Int32) (x3 : Int32) (o : Int32 × Int32 × (Nat → Int32)) (h : f_Rk_joinTwo_42 t_height sk x1 x2 x3 = some o) : Gm l y_Rk_joinTwo b_Rk_joinTwo 4 (some .int) { frames := 2, cells := 0, slots := 0, locals := 44 } D vwCl (xTy K) av w0 (CtF D vwCl av w0 (some (.int o.1)) [(a_t, .inr (6, [.ref a_rd, .ref a_me, .ref a_fr, .ref a_sk, .int o.2.1, .int t_hasCfa, .int t_cfa, .int t_begins])), (a_sk, .inl (K 1, 16, .inl o.2.2))]) 0 0 [(a_t, .inr (6, [.ref a_rd, .ref a_me, .ref a_fr, .ref a_sk, .int t_height, .int t_hasCfa, .int t_cfa, .int t_begins])), (a_sk, .inl (K 1, 16, .inl sk))] [(0, .ref a_t), (1, .int x1), (2, .int x2), (3, .int x3)] 42 [] := by
  unfold f_Rk_joinTwo_42 at h
  refine g_aload_n d_Rk_joinTwo_42 rfl ?_
  refine g_dup d_Rk_joinTwo_43 rfl ?_
  refine gf_Rk_27 0 rfl (v := .int t_height) rfl d_Rk_joinTwo_44 ?_
  refine g_iconst (v := 1) d_Rk_joinTwo_47 (by decide) ?_
  refine g_isub d_Rk_joinTwo_48 ?_
  refine pf_Rk_27 0 rfl (v := .int (t_height - 1)) rfl rfl (Nat.le_of_ble_eq_true rfl) (ws' := [(a_t, .inr (6, [.ref a_rd, .ref a_me, .ref a_fr, .ref a_sk, .int (t_height - 1), .int t_hasCfa, .int t_cfa, .int t_begins])), (a_sk, .inl (K 1, 16, .inl sk))]) rfl d_Rk_joinTwo_49 ?_
  refine g_aload_n d_Rk_joinTwo_52 rfl ?_
  refine gf_Rk_23 0 rfl (v := .ref a_sk) rfl d_Rk_joinTwo_53 ?_
  refine g_aload_n d_Rk_joinTwo_56 rfl ?_
  refine gf_Rk_27 0 rfl (v := .int (t_height - 1)) rfl d_Rk_joinTwo_57 ?_
  refine g_iconst (v := 1) d_Rk_joinTwo_60 (by decide) ?_
  refine g_isub d_Rk_joinTwo_61 ?_
  refine g_iload_n d_Rk_joinTwo_62 rfl ?_
  refine g_bipush (v := 41) d_Rk_joinTwo_63 (by decide) ?_
  refine g_icmp_lt (tgt := 77) d_Rk_joinTwo_65 (by decide) (fun hc => ?_) (fun hc => ?_)
  · replace h := it_t hc h
    refine g_iload_n d_Rk_joinTwo_77 rfl ?_
    refine g_iload_n d_Rk_joinTwo_78 rfl ?_
    refine g_iload_n d_Rk_joinTwo_79 rfl ?_
    obtain ⟨q80, hq80, h⟩ := it_b h
    refine g_callS (As := [.int x1, .int x3, .int x2]) (rest := [.int ((t_height - 1) - 1), .ref a_sk]) (st2 := [.int q80, .int ((t_height - 1) - 1), .ref a_sk]) (ws2 := [(a_t, .inr (6, [.ref a_rd, .ref a_me, .ref a_fr, .ref a_sk, .int (t_height - 1), .int t_hasCfa, .int t_cfa, .int t_begins])), (a_sk, .inl (K 1, 16, .inl sk))]) (c_Rk_joined l D K x1 x3 x2 q80 hq80) (cs_Rk_132 rfl rfl ⟨Nat.le_of_ble_eq_true rfl, Nat.le_of_ble_eq_true rfl⟩) (gOver.rd [] (by decide) rfl) (Nat.le_of_ble_eq_true rfl) ⟨Nat.le_of_ble_eq_true rfl, Nat.le_of_ble_eq_true rfl⟩ d_Rk_joinTwo_80 rfl rfl ?_
    obtain ⟨hi83, h⟩ := it_in h
    refine g_iast 1 1 (ws' := [(a_t, .inr (6, [.ref a_rd, .ref a_me, .ref a_fr, .ref a_sk, .int (t_height - 1), .int t_hasCfa, .int t_cfa, .int t_begins])), (a_sk, .inl (K 1, 16, .inl (upd sk ((t_height - 1) - 1).toNatClampNeg q80)))]) d_Rk_joinTwo_83 rfl rfl hi83 rfl ?_
    refine g_iconst (v := 0) d_Rk_joinTwo_84 (by decide) ?_
    obtain rfl := Option.some.inj h
    exact g_iret rfl d_Rk_joinTwo_85
  · replace h := it_f hc h
    refine g_iload_n d_Rk_joinTwo_68 rfl ?_
    refine g_iload_n d_Rk_joinTwo_69 rfl ?_
    refine g_iload_n d_Rk_joinTwo_70 rfl ?_
    obtain ⟨q71, hq71, h⟩ := it_b h
    refine g_callS (As := [.int x1, .int x3, .int x2]) (rest := [.int ((t_height - 1) - 1), .ref a_sk]) (st2 := [.int q71, .int ((t_height - 1) - 1), .ref a_sk]) (ws2 := [(a_t, .inr (6, [.ref a_rd, .ref a_me, .ref a_fr, .ref a_sk, .int (t_height - 1), .int t_hasCfa, .int t_cfa, .int t_begins])), (a_sk, .inl (K 1, 16, .inl sk))]) (c_Rk_compared l D K x1 x3 x2 q71 hq71) (cs_Rk_129 rfl rfl ⟨Nat.le_of_ble_eq_true rfl, Nat.le_of_ble_eq_true rfl⟩) (gOver.rd [] (by decide) rfl) (Nat.le_of_ble_eq_true rfl) ⟨Nat.le_of_ble_eq_true rfl, Nat.le_of_ble_eq_true rfl⟩ d_Rk_joinTwo_71 rfl rfl ?_
    refine g_goto (tgt := 83) d_Rk_joinTwo_74 (by decide) ?_
    obtain ⟨hi83, h⟩ := it_in h
    refine g_iast 1 1 (ws' := [(a_t, .inr (6, [.ref a_rd, .ref a_me, .ref a_fr, .ref a_sk, .int (t_height - 1), .int t_hasCfa, .int t_cfa, .int t_begins])), (a_sk, .inl (K 1, 16, .inl (upd sk ((t_height - 1) - 1).toNatClampNeg q71)))]) d_Rk_joinTwo_83 rfl rfl hi83 rfl ?_
    refine g_iconst (v := 0) d_Rk_joinTwo_84 (by decide) ?_
    obtain rfl := Option.some.inj h
    exact g_iret rfl d_Rk_joinTwo_85
def f_Rk_joinTwo (t_height : Int32) (sk : Nat → Int32) (o1 : Int32) : Option (Int32 × Int32 × (Nat → Int32)) := if (t_height - 1) < 0 ∨ 16 ≤ (t_height - 1).toNatClampNeg then none else if (t_height - 2) < 0 ∨ 16 ≤ (t_height - 2).toNatClampNeg then none else if (sk (t_height - 1).toNatClampNeg) = 0 then (if o1 = 27 then (some (5, t_height, sk)) else (if o1 = 29 then (some (5, t_height, sk)) else (f_Rk_joinTwo_42 t_height sk o1 (sk (t_height - 1).toNatClampNeg) (sk (t_height - 2).toNatClampNeg)))) else (f_Rk_joinTwo_42 t_height sk o1 (sk (t_height - 1).toNatClampNeg) (sk (t_height - 2).toNatClampNeg))
set_option maxRecDepth 100000 in
set_option maxHeartbeats 4000000 in
theorem c_Rk_joinTwo (l : Launch) (D : va_G) (K : Nat → ClassId) (a_t a_rd a_me a_fr a_sk : Nat) (t_height : Int32) (t_hasCfa : Int32) (t_cfa : Int32) (t_begins : Int32) (sk : Nat → Int32) (o1 : Int32) (o : Int32 × Int32 × (Nat → Int32)) (h : f_Rk_joinTwo t_height sk o1 = some o) : Ct l y_Rk_joinTwo b_Rk_joinTwo 4 (some .int) { frames := 2, cells := 0, slots := 0, locals := 44 } D vwCl (xTy K) [.ref a_t, .int o1] [(a_t, .inr (6, [.ref a_rd, .ref a_me, .ref a_fr, .ref a_sk, .int t_height, .int t_hasCfa, .int t_cfa, .int t_begins])), (a_sk, .inl (K 1, 16, .inl sk))] (some (.int o.1)) [(a_t, .inr (6, [.ref a_rd, .ref a_me, .ref a_fr, .ref a_sk, .int o.2.1, .int t_hasCfa, .int t_cfa, .int t_begins])), (a_sk, .inl (K 1, 16, .inl o.2.2))] := by
  refine Ct.ofG (by decide) (Nat.le_of_ble_eq_true rfl) ?_
  refine g_L (L' := [(0, .ref a_t), (1, .int o1)]) rfl ?_
  unfold f_Rk_joinTwo at h
  refine g_aload_n d_Rk_joinTwo_0 rfl ?_
  refine gf_Rk_23 0 rfl (v := .ref a_sk) rfl d_Rk_joinTwo_1 ?_
  refine g_aload_n d_Rk_joinTwo_4 rfl ?_
  refine gf_Rk_27 0 rfl (v := .int t_height) rfl d_Rk_joinTwo_5 ?_
  refine g_iconst (v := 1) d_Rk_joinTwo_8 (by decide) ?_
  refine g_isub d_Rk_joinTwo_9 ?_
  obtain ⟨hi10, h⟩ := it_in h
  refine g_iald 1 1 d_Rk_joinTwo_10 rfl rfl hi10 ?_
  refine g_istore_n (L' := [(2, .int (sk (t_height - 1).toNatClampNeg)), (0, .ref a_t), (1, .int o1)]) d_Rk_joinTwo_11 (by decide) rfl ?_
  refine g_aload_n d_Rk_joinTwo_12 rfl ?_
  refine gf_Rk_23 0 rfl (v := .ref a_sk) rfl d_Rk_joinTwo_13 ?_
  refine g_aload_n d_Rk_joinTwo_16 rfl ?_
  refine gf_Rk_27 0 rfl (v := .int t_height) rfl d_Rk_joinTwo_17 ?_
  refine g_iconst (v := 2) d_Rk_joinTwo_20 (by decide) ?_
  refine g_isub d_Rk_joinTwo_21 ?_
  obtain ⟨hi22, h⟩ := it_in h
  refine g_iald 1 1 d_Rk_joinTwo_22 rfl rfl hi22 ?_
  refine g_istore_n (L' := [(3, .int (sk (t_height - 2).toNatClampNeg)), (2, .int (sk (t_height - 1).toNatClampNeg)), (0, .ref a_t), (1, .int o1)]) d_Rk_joinTwo_23 (by decide) rfl ?_
  refine g_iload_n d_Rk_joinTwo_24 rfl ?_
  refine g_if_ne (tgt := 42) d_Rk_joinTwo_25 (by decide) (fun hc => ?_) (fun hc => ?_)
  · replace h := it_f hc h
    refine g_lsub (L' := [(0, .ref a_t), (1, .int o1), (2, .int (sk (t_height - 1).toNatClampNeg)), (3, .int (sk (t_height - 2).toNatClampNeg))]) [2, 3, 1, 0] rfl ?_
    exact j_Rk_joinTwo_42 l D K a_t a_rd a_me a_fr a_sk t_height t_hasCfa t_cfa t_begins sk o1 (sk (t_height - 1).toNatClampNeg) (sk (t_height - 2).toNatClampNeg) o h
  · replace h := it_t hc h
    refine g_iload_n d_Rk_joinTwo_28 rfl ?_
    refine g_bipush (v := 27) d_Rk_joinTwo_29 (by decide) ?_
    refine g_icmp_eq (tgt := 40) d_Rk_joinTwo_31 (by decide) (fun hc => ?_) (fun hc => ?_)
    · replace h := it_t hc h
      refine g_iconst (v := 5) d_Rk_joinTwo_40 (by decide) ?_
      obtain rfl := Option.some.inj h
      exact g_iret rfl d_Rk_joinTwo_41
    · replace h := it_f hc h
      refine g_iload_n d_Rk_joinTwo_34 rfl ?_
      refine g_bipush (v := 29) d_Rk_joinTwo_35 (by decide) ?_
      refine g_icmp_ne (tgt := 42) d_Rk_joinTwo_37 (by decide) (fun hc => ?_) (fun hc => ?_)
      · replace h := it_f hc h
        refine g_lsub (L' := [(0, .ref a_t), (1, .int o1), (2, .int (sk (t_height - 1).toNatClampNeg)), (3, .int (sk (t_height - 2).toNatClampNeg))]) [2, 3, 1, 0] rfl ?_
        exact j_Rk_joinTwo_42 l D K a_t a_rd a_me a_fr a_sk t_height t_hasCfa t_cfa t_begins sk o1 (sk (t_height - 1).toNatClampNeg) (sk (t_height - 2).toNatClampNeg) o h
      · replace h := it_t hc h
        refine g_iconst (v := 5) d_Rk_joinTwo_40 (by decide) ?_
        obtain rfl := Option.some.inj h
        exact g_iret rfl d_Rk_joinTwo_41
def f_Rk_move (t_height : Int32) (sk : Nat → Int32) (o1 : Int32) : Option (Int32 × Int32 × (Nat → Int32)) := if (t_height - 1) < 0 ∨ 16 ≤ (t_height - 1).toNatClampNeg then none else if o1 = 19 then (some (0, t_height - 1, sk)) else (if o1 = 22 then (if (t_height - 2) < 0 ∨ 16 ≤ (t_height - 2).toNatClampNeg then none else if (t_height - 1) < 0 ∨ 16 ≤ (t_height - 1).toNatClampNeg then none else if (t_height - 2) < 0 ∨ 16 ≤ (t_height - 2).toNatClampNeg then none else some (0, t_height, upd (upd sk (t_height - 1).toNatClampNeg (sk (t_height - 2).toNatClampNeg)) (t_height - 2).toNatClampNeg (sk (t_height - 1).toNatClampNeg))) else (if (t_height - 2) < 0 ∨ 16 ≤ (t_height - 2).toNatClampNeg then none else if (t_height - 1) < 0 ∨ 16 ≤ (t_height - 1).toNatClampNeg then none else if (t_height - 3) < 0 ∨ 16 ≤ (t_height - 3).toNatClampNeg then none else if (t_height - 2) < 0 ∨ 16 ≤ (t_height - 2).toNatClampNeg then none else if (t_height - 3) < 0 ∨ 16 ≤ (t_height - 3).toNatClampNeg then none else some (0, t_height, upd (upd (upd sk (t_height - 1).toNatClampNeg (sk (t_height - 2).toNatClampNeg)) (t_height - 2).toNatClampNeg ((upd sk (t_height - 1).toNatClampNeg (sk (t_height - 2).toNatClampNeg)) (t_height - 3).toNatClampNeg)) (t_height - 3).toNatClampNeg (sk (t_height - 1).toNatClampNeg))))
set_option maxRecDepth 100000 in
set_option maxHeartbeats 4000000 in
theorem c_Rk_move (l : Launch) (D : va_G) (K : Nat → ClassId) (a_t a_rd a_me a_fr a_sk : Nat) (t_height : Int32) (t_hasCfa : Int32) (t_cfa : Int32) (t_begins : Int32) (sk : Nat → Int32) (o1 : Int32) (o : Int32 × Int32 × (Nat → Int32)) (h : f_Rk_move t_height sk o1 = some o) : Ct l y_Rk_move b_Rk_move 3 (some .int) { frames := 0, cells := 0, slots := 0, locals := 0 } D vwCl (xTy K) [.ref a_t, .int o1] [(a_t, .inr (6, [.ref a_rd, .ref a_me, .ref a_fr, .ref a_sk, .int t_height, .int t_hasCfa, .int t_cfa, .int t_begins])), (a_sk, .inl (K 1, 16, .inl sk))] (some (.int o.1)) [(a_t, .inr (6, [.ref a_rd, .ref a_me, .ref a_fr, .ref a_sk, .int o.2.1, .int t_hasCfa, .int t_cfa, .int t_begins])), (a_sk, .inl (K 1, 16, .inl o.2.2))] := by
  refine Ct.ofG (by decide) (Nat.le_of_ble_eq_true rfl) ?_
  refine g_L (L' := [(0, .ref a_t), (1, .int o1)]) rfl ?_
  unfold f_Rk_move at h
  refine g_aload_n d_Rk_move_0 rfl ?_
  refine gf_Rk_23 0 rfl (v := .ref a_sk) rfl d_Rk_move_1 ?_
  refine g_aload_n d_Rk_move_4 rfl ?_
  refine gf_Rk_27 0 rfl (v := .int t_height) rfl d_Rk_move_5 ?_
  refine g_iconst (v := 1) d_Rk_move_8 (by decide) ?_
  refine g_isub d_Rk_move_9 ?_
  obtain ⟨hi10, h⟩ := it_in h
  refine g_iald 1 1 d_Rk_move_10 rfl rfl hi10 ?_
  refine g_istore_n (L' := [(2, .int (sk (t_height - 1).toNatClampNeg)), (0, .ref a_t), (1, .int o1)]) d_Rk_move_11 (by decide) rfl ?_
  refine g_iload_n d_Rk_move_12 rfl ?_
  refine g_bipush (v := 19) d_Rk_move_13 (by decide) ?_
  refine g_icmp_ne (tgt := 31) d_Rk_move_15 (by decide) (fun hc => ?_) (fun hc => ?_)
  · replace h := it_f hc h
    refine g_iload_n d_Rk_move_31 rfl ?_
    refine g_bipush (v := 22) d_Rk_move_32 (by decide) ?_
    refine g_icmp_ne (tgt := 74) d_Rk_move_34 (by decide) (fun hc => ?_) (fun hc => ?_)
    · replace h := it_f hc h
      refine g_aload_n d_Rk_move_74 rfl ?_
      refine gf_Rk_23 0 rfl (v := .ref a_sk) rfl d_Rk_move_75 ?_
      refine g_aload_n d_Rk_move_78 rfl ?_
      refine gf_Rk_27 0 rfl (v := .int t_height) rfl d_Rk_move_79 ?_
      refine g_iconst (v := 1) d_Rk_move_82 (by decide) ?_
      refine g_isub d_Rk_move_83 ?_
      refine g_aload_n d_Rk_move_84 rfl ?_
      refine gf_Rk_23 0 rfl (v := .ref a_sk) rfl d_Rk_move_85 ?_
      refine g_aload_n d_Rk_move_88 rfl ?_
      refine gf_Rk_27 0 rfl (v := .int t_height) rfl d_Rk_move_89 ?_
      refine g_iconst (v := 2) d_Rk_move_92 (by decide) ?_
      refine g_isub d_Rk_move_93 ?_
      obtain ⟨hi94, h⟩ := it_in h
      refine g_iald 1 1 d_Rk_move_94 rfl rfl hi94 ?_
      obtain ⟨hi95, h⟩ := it_in h
      refine g_iast 1 1 (ws' := [(a_t, .inr (6, [.ref a_rd, .ref a_me, .ref a_fr, .ref a_sk, .int t_height, .int t_hasCfa, .int t_cfa, .int t_begins])), (a_sk, .inl (K 1, 16, .inl (upd sk (t_height - 1).toNatClampNeg (sk (t_height - 2).toNatClampNeg))))]) d_Rk_move_95 rfl rfl hi95 rfl ?_
      refine g_aload_n d_Rk_move_96 rfl ?_
      refine gf_Rk_23 0 rfl (v := .ref a_sk) rfl d_Rk_move_97 ?_
      refine g_aload_n d_Rk_move_100 rfl ?_
      refine gf_Rk_27 0 rfl (v := .int t_height) rfl d_Rk_move_101 ?_
      refine g_iconst (v := 2) d_Rk_move_104 (by decide) ?_
      refine g_isub d_Rk_move_105 ?_
      refine g_aload_n d_Rk_move_106 rfl ?_
      refine gf_Rk_23 0 rfl (v := .ref a_sk) rfl d_Rk_move_107 ?_
      refine g_aload_n d_Rk_move_110 rfl ?_
      refine gf_Rk_27 0 rfl (v := .int t_height) rfl d_Rk_move_111 ?_
      refine g_iconst (v := 3) d_Rk_move_114 (by decide) ?_
      refine g_isub d_Rk_move_115 ?_
      obtain ⟨hi116, h⟩ := it_in h
      refine g_iald 1 1 d_Rk_move_116 rfl rfl hi116 ?_
      obtain ⟨hi117, h⟩ := it_in h
      refine g_iast 1 1 (ws' := [(a_t, .inr (6, [.ref a_rd, .ref a_me, .ref a_fr, .ref a_sk, .int t_height, .int t_hasCfa, .int t_cfa, .int t_begins])), (a_sk, .inl (K 1, 16, .inl (upd (upd sk (t_height - 1).toNatClampNeg (sk (t_height - 2).toNatClampNeg)) (t_height - 2).toNatClampNeg ((upd sk (t_height - 1).toNatClampNeg (sk (t_height - 2).toNatClampNeg)) (t_height - 3).toNatClampNeg))))]) d_Rk_move_117 rfl rfl hi117 rfl ?_
      refine g_aload_n d_Rk_move_118 rfl ?_
      refine gf_Rk_23 0 rfl (v := .ref a_sk) rfl d_Rk_move_119 ?_
      refine g_aload_n d_Rk_move_122 rfl ?_
      refine gf_Rk_27 0 rfl (v := .int t_height) rfl d_Rk_move_123 ?_
      refine g_iconst (v := 3) d_Rk_move_126 (by decide) ?_
      refine g_isub d_Rk_move_127 ?_
      refine g_iload_n d_Rk_move_128 rfl ?_
      obtain ⟨hi129, h⟩ := it_in h
      refine g_iast 1 1 (ws' := [(a_t, .inr (6, [.ref a_rd, .ref a_me, .ref a_fr, .ref a_sk, .int t_height, .int t_hasCfa, .int t_cfa, .int t_begins])), (a_sk, .inl (K 1, 16, .inl (upd (upd (upd sk (t_height - 1).toNatClampNeg (sk (t_height - 2).toNatClampNeg)) (t_height - 2).toNatClampNeg ((upd sk (t_height - 1).toNatClampNeg (sk (t_height - 2).toNatClampNeg)) (t_height - 3).toNatClampNeg)) (t_height - 3).toNatClampNeg (sk (t_height - 1).toNatClampNeg))))]) d_Rk_move_129 rfl rfl hi129 rfl ?_
      refine g_iconst (v := 0) d_Rk_move_130 (by decide) ?_
      obtain rfl := Option.some.inj h
      exact g_iret rfl d_Rk_move_131
    · replace h := it_t hc h
      refine g_aload_n d_Rk_move_37 rfl ?_
      refine gf_Rk_23 0 rfl (v := .ref a_sk) rfl d_Rk_move_38 ?_
      refine g_aload_n d_Rk_move_41 rfl ?_
      refine gf_Rk_27 0 rfl (v := .int t_height) rfl d_Rk_move_42 ?_
      refine g_iconst (v := 1) d_Rk_move_45 (by decide) ?_
      refine g_isub d_Rk_move_46 ?_
      refine g_aload_n d_Rk_move_47 rfl ?_
      refine gf_Rk_23 0 rfl (v := .ref a_sk) rfl d_Rk_move_48 ?_
      refine g_aload_n d_Rk_move_51 rfl ?_
      refine gf_Rk_27 0 rfl (v := .int t_height) rfl d_Rk_move_52 ?_
      refine g_iconst (v := 2) d_Rk_move_55 (by decide) ?_
      refine g_isub d_Rk_move_56 ?_
      obtain ⟨hi57, h⟩ := it_in h
      refine g_iald 1 1 d_Rk_move_57 rfl rfl hi57 ?_
      obtain ⟨hi58, h⟩ := it_in h
      refine g_iast 1 1 (ws' := [(a_t, .inr (6, [.ref a_rd, .ref a_me, .ref a_fr, .ref a_sk, .int t_height, .int t_hasCfa, .int t_cfa, .int t_begins])), (a_sk, .inl (K 1, 16, .inl (upd sk (t_height - 1).toNatClampNeg (sk (t_height - 2).toNatClampNeg))))]) d_Rk_move_58 rfl rfl hi58 rfl ?_
      refine g_aload_n d_Rk_move_59 rfl ?_
      refine gf_Rk_23 0 rfl (v := .ref a_sk) rfl d_Rk_move_60 ?_
      refine g_aload_n d_Rk_move_63 rfl ?_
      refine gf_Rk_27 0 rfl (v := .int t_height) rfl d_Rk_move_64 ?_
      refine g_iconst (v := 2) d_Rk_move_67 (by decide) ?_
      refine g_isub d_Rk_move_68 ?_
      refine g_iload_n d_Rk_move_69 rfl ?_
      obtain ⟨hi70, h⟩ := it_in h
      refine g_iast 1 1 (ws' := [(a_t, .inr (6, [.ref a_rd, .ref a_me, .ref a_fr, .ref a_sk, .int t_height, .int t_hasCfa, .int t_cfa, .int t_begins])), (a_sk, .inl (K 1, 16, .inl (upd (upd sk (t_height - 1).toNatClampNeg (sk (t_height - 2).toNatClampNeg)) (t_height - 2).toNatClampNeg (sk (t_height - 1).toNatClampNeg))))]) d_Rk_move_70 rfl rfl hi70 rfl ?_
      refine g_goto (tgt := 130) d_Rk_move_71 (by decide) ?_
      refine g_iconst (v := 0) d_Rk_move_130 (by decide) ?_
      obtain rfl := Option.some.inj h
      exact g_iret rfl d_Rk_move_131
  · replace h := it_t hc h
    refine g_aload_n d_Rk_move_18 rfl ?_
    refine g_dup d_Rk_move_19 rfl ?_
    refine gf_Rk_27 0 rfl (v := .int t_height) rfl d_Rk_move_20 ?_
    refine g_iconst (v := 1) d_Rk_move_23 (by decide) ?_
    refine g_isub d_Rk_move_24 ?_
    refine pf_Rk_27 0 rfl (v := .int (t_height - 1)) rfl rfl (Nat.le_of_ble_eq_true rfl) (ws' := [(a_t, .inr (6, [.ref a_rd, .ref a_me, .ref a_fr, .ref a_sk, .int (t_height - 1), .int t_hasCfa, .int t_cfa, .int t_begins])), (a_sk, .inl (K 1, 16, .inl sk))]) rfl d_Rk_move_25 ?_
    refine g_goto (tgt := 130) d_Rk_move_28 (by decide) ?_
    refine g_iconst (v := 0) d_Rk_move_130 (by decide) ?_
    obtain rfl := Option.some.inj h
    exact g_iret rfl d_Rk_move_131
def f_Rk_jump_30 (t_height : Int32) (t_begins : Int32) (rd_at : Int32) (rd_limit : Int32) (sk : Nat → Int32) (x1 : Int32) (x2 : Int32) : Option (Int32 × Int32 × Int32) := if (rd_at + x2) < t_begins then (some (2, t_height, rd_at)) else (if (rd_at + x2) ≤ rd_limit then (some (0, t_height, rd_at + x2)) else (some (2, t_height, rd_at)))
set_option maxRecDepth 100000 in
set_option maxHeartbeats 4000000 in
theorem j_Rk_jump_30 (l : Launch) (D : va_G) (K : Nat → ClassId) (a_t a_rd a_bb a_me a_fr a_sk : Nat) {av : List Value} {w0 : va_W} (t_height : Int32) (t_hasCfa : Int32) (t_cfa : Int32) (t_begins : Int32) (rd_at : Int32) (rd_limit : Int32) (rd_broken : Int32) (sk : Nat → Int32) (x1 : Int32) (x2 : Int32) (o : Int32 × Int32 × Int32) (h : f_Rk_jump_30 t_height t_begins rd_at rd_limit sk x1 x2 = some o) : Gm l y_Rk_jump b_Rk_jump 4 (some .int) { frames := 0, cells := 0, slots := 0, locals := 0 } D vwCl (xTy K) av w0 (CtF D vwCl av w0 (some (.int o.1)) [(a_t, .inr (6, [.ref a_rd, .ref a_me, .ref a_fr, .ref a_sk, .int o.2.1, .int t_hasCfa, .int t_cfa, .int t_begins])), (a_rd, .inr (5, [.ref a_bb, .int o.2.2, .int rd_limit, .int rd_broken])), (a_sk, .inl (K 1, 16, .inl sk))]) 0 0 [(a_t, .inr (6, [.ref a_rd, .ref a_me, .ref a_fr, .ref a_sk, .int t_height, .int t_hasCfa, .int t_cfa, .int t_begins])), (a_rd, .inr (5, [.ref a_bb, .int rd_at, .int rd_limit, .int rd_broken])), (a_sk, .inl (K 1, 16, .inl sk))] [(0, .ref a_t), (1, .int x1), (2, .int x2)] 30 [] := by
  unfold f_Rk_jump_30 at h
  refine g_aload_n d_Rk_jump_30 rfl ?_
  refine gf_Rk_9 0 rfl (v := .ref a_rd) rfl d_Rk_jump_31 ?_
  refine gf_Rk_51 1 rfl (v := .int rd_at) rfl d_Rk_jump_34 ?_
  refine g_iload_n d_Rk_jump_37 rfl ?_
  refine g_iadd d_Rk_jump_38 ?_
  refine g_istore_n (L' := [(3, .int (rd_at + x2)), (0, .ref a_t), (1, .int x1), (2, .int x2)]) d_Rk_jump_39 (by decide) rfl ?_
  refine g_iload_n d_Rk_jump_40 rfl ?_
  refine g_aload_n d_Rk_jump_41 rfl ?_
  refine gf_Rk_42 0 rfl (v := .int t_begins) rfl d_Rk_jump_42 ?_
  refine g_icmp_lt (tgt := 59) d_Rk_jump_45 (by decide) (fun hc => ?_) (fun hc => ?_)
  · replace h := it_t hc h
    refine g_iconst (v := 2) d_Rk_jump_59 (by decide) ?_
    obtain rfl := Option.some.inj h
    exact g_iret rfl d_Rk_jump_60
  · replace h := it_f hc h
    refine g_iload_n d_Rk_jump_48 rfl ?_
    refine g_aload_n d_Rk_jump_49 rfl ?_
    refine gf_Rk_9 0 rfl (v := .ref a_rd) rfl d_Rk_jump_50 ?_
    refine gf_Rk_54 1 rfl (v := .int rd_limit) rfl d_Rk_jump_53 ?_
    refine g_icmp_le (tgt := 61) d_Rk_jump_56 (by decide) (fun hc => ?_) (fun hc => ?_)
    · replace h := it_t hc h
      refine g_aload_n d_Rk_jump_61 rfl ?_
      refine gf_Rk_9 0 rfl (v := .ref a_rd) rfl d_Rk_jump_62 ?_
      refine g_iload_n d_Rk_jump_65 rfl ?_
      refine pf_Rk_51 1 rfl (v := .int (rd_at + x2)) rfl rfl (Nat.le_of_ble_eq_true rfl) (ws' := [(a_t, .inr (6, [.ref a_rd, .ref a_me, .ref a_fr, .ref a_sk, .int t_height, .int t_hasCfa, .int t_cfa, .int t_begins])), (a_rd, .inr (5, [.ref a_bb, .int (rd_at + x2), .int rd_limit, .int rd_broken])), (a_sk, .inl (K 1, 16, .inl sk))]) rfl d_Rk_jump_66 ?_
      refine g_iconst (v := 0) d_Rk_jump_69 (by decide) ?_
      obtain rfl := Option.some.inj h
      exact g_iret rfl d_Rk_jump_70
    · replace h := it_f hc h
      refine g_iconst (v := 2) d_Rk_jump_59 (by decide) ?_
      obtain rfl := Option.some.inj h
      exact g_iret rfl d_Rk_jump_60
def f_Rk_jump (t_height : Int32) (t_begins : Int32) (rd_at : Int32) (rd_limit : Int32) (sk : Nat → Int32) (o1 : Int32) (d1 : Int32) : Option (Int32 × Int32 × Int32) := if o1 = 40 then (if (t_height - 1) < 0 ∨ 16 ≤ (t_height - 1).toNatClampNeg then none else if (sk (t_height - 1).toNatClampNeg) = 0 then (some (0, t_height - 1, rd_at)) else (f_Rk_jump_30 (t_height - 1) t_begins rd_at rd_limit sk o1 d1)) else (f_Rk_jump_30 t_height t_begins rd_at rd_limit sk o1 d1)
set_option maxRecDepth 100000 in
set_option maxHeartbeats 4000000 in
theorem c_Rk_jump (l : Launch) (D : va_G) (K : Nat → ClassId) (a_t a_rd a_bb a_me a_fr a_sk : Nat) (t_height : Int32) (t_hasCfa : Int32) (t_cfa : Int32) (t_begins : Int32) (rd_at : Int32) (rd_limit : Int32) (rd_broken : Int32) (sk : Nat → Int32) (o1 : Int32) (d1 : Int32) (o : Int32 × Int32 × Int32) (h : f_Rk_jump t_height t_begins rd_at rd_limit sk o1 d1 = some o) : Ct l y_Rk_jump b_Rk_jump 4 (some .int) { frames := 0, cells := 0, slots := 0, locals := 0 } D vwCl (xTy K) [.ref a_t, .int o1, .int d1] [(a_t, .inr (6, [.ref a_rd, .ref a_me, .ref a_fr, .ref a_sk, .int t_height, .int t_hasCfa, .int t_cfa, .int t_begins])), (a_rd, .inr (5, [.ref a_bb, .int rd_at, .int rd_limit, .int rd_broken])), (a_sk, .inl (K 1, 16, .inl sk))] (some (.int o.1)) [(a_t, .inr (6, [.ref a_rd, .ref a_me, .ref a_fr, .ref a_sk, .int o.2.1, .int t_hasCfa, .int t_cfa, .int t_begins])), (a_rd, .inr (5, [.ref a_bb, .int o.2.2, .int rd_limit, .int rd_broken])), (a_sk, .inl (K 1, 16, .inl sk))] := by
  refine Ct.ofG (by decide) (Nat.le_of_ble_eq_true rfl) ?_
  refine g_L (L' := [(0, .ref a_t), (1, .int o1), (2, .int d1)]) rfl ?_
  unfold f_Rk_jump at h
  refine g_iload_n d_Rk_jump_0 rfl ?_
  refine g_bipush (v := 40) d_Rk_jump_1 (by decide) ?_
  refine g_icmp_ne (tgt := 30) d_Rk_jump_3 (by decide) (fun hc => ?_) (fun hc => ?_)
  · replace h := it_f hc h
    exact j_Rk_jump_30 l D K a_t a_rd a_bb a_me a_fr a_sk t_height t_hasCfa t_cfa t_begins rd_at rd_limit rd_broken sk o1 d1 o h
  · replace h := it_t hc h
    refine g_aload_n d_Rk_jump_6 rfl ?_
    refine g_dup d_Rk_jump_7 rfl ?_
    refine gf_Rk_27 0 rfl (v := .int t_height) rfl d_Rk_jump_8 ?_
    refine g_iconst (v := 1) d_Rk_jump_11 (by decide) ?_
    refine g_isub d_Rk_jump_12 ?_
    refine pf_Rk_27 0 rfl (v := .int (t_height - 1)) rfl rfl (Nat.le_of_ble_eq_true rfl) (ws' := [(a_t, .inr (6, [.ref a_rd, .ref a_me, .ref a_fr, .ref a_sk, .int (t_height - 1), .int t_hasCfa, .int t_cfa, .int t_begins])), (a_rd, .inr (5, [.ref a_bb, .int rd_at, .int rd_limit, .int rd_broken])), (a_sk, .inl (K 1, 16, .inl sk))]) rfl d_Rk_jump_13 ?_
    refine g_aload_n d_Rk_jump_16 rfl ?_
    refine gf_Rk_23 0 rfl (v := .ref a_sk) rfl d_Rk_jump_17 ?_
    refine g_aload_n d_Rk_jump_20 rfl ?_
    refine gf_Rk_27 0 rfl (v := .int (t_height - 1)) rfl d_Rk_jump_21 ?_
    obtain ⟨hi24, h⟩ := it_in h
    refine g_iald 2 1 d_Rk_jump_24 rfl rfl hi24 ?_
    refine g_if_ne (tgt := 30) d_Rk_jump_25 (by decide) (fun hc => ?_) (fun hc => ?_)
    · replace h := it_f hc h
      exact j_Rk_jump_30 l D K a_t a_rd a_bb a_me a_fr a_sk (t_height - 1) t_hasCfa t_cfa t_begins rd_at rd_limit rd_broken sk o1 d1 o h
    · replace h := it_t hc h
      refine g_iconst (v := 0) d_Rk_jump_28 (by decide) ?_
      obtain rfl := Option.some.inj h
      exact g_iret rfl d_Rk_jump_29
def f_Rk_doOne_56 (t_height : Int32) (t_hasCfa : Int32) (t_cfa : Int32) (t_begins : Int32) (rd_at : Int32) (rd_limit : Int32) (rd_broken : Int32) (bb : Nat → Int32) (mw : Nat → Int32) (fr_known : Int32) (fv : Nat → Int32) (sk : Nat → Int32) (x1 : Int32) (x2 : Int32) (x3 : Int32) (s0 : Int32) : Option (Int32 × Int32 × Int32 × Int32 × (Nat → Int32)) := if s0 = 0 then (((f_Rk_neededBy x1 x2 x3).bind fun q70 => if q70 ≤ t_height then (if x2 = 2 then (((f_Rk_pushFor t_height t_cfa fr_known fv sk x1 x3).bind fun q115 => some (q115.1, q115.2.1, rd_at, rd_broken, q115.2.2))) else if x2 = 3 then (((f_Rk_changeTop t_height mw sk x1 x3).bind fun q122 => some (q122.1, t_height, rd_at, rd_broken, q122.2))) else if x2 = 4 then (((f_Rk_joinTwo t_height sk x1).bind fun q128 => some (q128.1, q128.2.1, rd_at, rd_broken, q128.2.2))) else if x2 = 5 then (((f_Rk_move t_height sk x1).bind fun q134 => some (q134.1, q134.2.1, rd_at, rd_broken, q134.2.2))) else if x2 = 6 then (((f_Rk_jump t_height t_begins rd_at rd_limit sk x1 x3).bind fun q141 => some (q141.1, q141.2.1, q141.2.2, rd_broken, sk))) else some (0, t_height, rd_at, rd_broken, sk)) else (some (3, t_height, rd_at, rd_broken, sk)))) else (some (3, t_height, rd_at, rd_broken, sk))
set_option maxRecDepth 100000 in
set_option maxHeartbeats 4000000 in
theorem j_Rk_doOne_56 (l : Launch) (D : va_G) (K : Nat → ClassId) (a_t a_rd a_bb a_me a_mw a_fr a_fv a_sk : Nat) {av : List Value} {w0 : va_W} (t_height : Int32) (t_hasCfa : Int32) (t_cfa : Int32) (t_begins : Int32) (rd_at : Int32) (rd_limit : Int32) (rd_broken : Int32) (bb : Nat → Int32) (mw : Nat → Int32) (fr_known : Int32) (fr_pc : Int32) (fr_unwound : Int32) (fv : Nat → Int32) (sk : Nat → Int32) (x1 : Int32) (x2 : Int32) (x3 : Int32) (s0 : Int32) (o : Int32 × Int32 × Int32 × Int32 × (Nat → Int32)) (h : f_Rk_doOne_56 t_height t_hasCfa t_cfa t_begins rd_at rd_limit rd_broken bb mw fr_known fv sk x1 x2 x3 s0 = some o) : Gm l y_Rk_doOne b_Rk_doOne 5 (some .int) { frames := 3, cells := 0, slots := 0, locals := 67 } D vwCl (xTy K) av w0 (CtF D vwCl av w0 (some (.int o.1)) [(a_t, .inr (6, [.ref a_rd, .ref a_me, .ref a_fr, .ref a_sk, .int o.2.1, .int t_hasCfa, .int t_cfa, .int t_begins])), (a_rd, .inr (5, [.ref a_bb, .int o.2.2.1, .int rd_limit, .int o.2.2.2.1])), (a_bb, .inl (K 0, 512, .inl bb)), (a_me, .inr (4, [.ref a_mw])), (a_mw, .inl (K 1, 256, .inl mw)), (a_fr, .inr (1, [.ref a_fv, .int fr_known, .int fr_pc, .int fr_unwound])), (a_fv, .inl (K 1, 8, .inl fv)), (a_sk, .inl (K 1, 16, .inl o.2.2.2.2))]) 0 0 [(a_t, .inr (6, [.ref a_rd, .ref a_me, .ref a_fr, .ref a_sk, .int t_height, .int t_hasCfa, .int t_cfa, .int t_begins])), (a_rd, .inr (5, [.ref a_bb, .int rd_at, .int rd_limit, .int rd_broken])), (a_bb, .inl (K 0, 512, .inl bb)), (a_me, .inr (4, [.ref a_mw])), (a_mw, .inl (K 1, 256, .inl mw)), (a_fr, .inr (1, [.ref a_fv, .int fr_known, .int fr_pc, .int fr_unwound])), (a_fv, .inl (K 1, 8, .inl fv)), (a_sk, .inl (K 1, 16, .inl sk))] [(0, .ref a_t), (1, .int x1), (2, .int x2), (3, .int x3)] 56 [.int s0] := by
  unfold f_Rk_doOne_56 at h
  refine g_istore (L' := [(4, .int s0), (0, .ref a_t), (1, .int x1), (2, .int x2), (3, .int x3)]) d_Rk_doOne_56 (by decide) rfl ?_
  refine g_iload d_Rk_doOne_58 rfl ?_
  refine g_if_ne (tgt := 76) d_Rk_doOne_60 (by decide) (fun hc => ?_) (fun hc => ?_)
  · replace h := it_f hc h
    refine g_iconst (v := 3) d_Rk_doOne_76 (by decide) ?_
    obtain rfl := Option.some.inj h
    exact g_iret rfl d_Rk_doOne_77
  · replace h := it_t hc h
    refine g_aload_n d_Rk_doOne_63 rfl ?_
    refine gf_Rk_27 0 rfl (v := .int t_height) rfl d_Rk_doOne_64 ?_
    refine g_iload_n d_Rk_doOne_67 rfl ?_
    refine g_iload_n d_Rk_doOne_68 rfl ?_
    refine g_iload_n d_Rk_doOne_69 rfl ?_
    obtain ⟨q70, hq70, h⟩ := it_b h
    refine g_callS (As := [.int x1, .int x2, .int x3]) (rest := [.int t_height]) (st2 := [.int q70, .int t_height]) (ws2 := [(a_t, .inr (6, [.ref a_rd, .ref a_me, .ref a_fr, .ref a_sk, .int t_height, .int t_hasCfa, .int t_cfa, .int t_begins])), (a_rd, .inr (5, [.ref a_bb, .int rd_at, .int rd_limit, .int rd_broken])), (a_bb, .inl (K 0, 512, .inl bb)), (a_me, .inr (4, [.ref a_mw])), (a_mw, .inl (K 1, 256, .inl mw)), (a_fr, .inr (1, [.ref a_fv, .int fr_known, .int fr_pc, .int fr_unwound])), (a_fv, .inl (K 1, 8, .inl fv)), (a_sk, .inl (K 1, 16, .inl sk))]) (c_Rk_neededBy l D K x1 x2 x3 q70 hq70) (cs_Rk_74 rfl rfl ⟨Nat.le_of_ble_eq_true rfl, Nat.le_of_ble_eq_true rfl⟩) (gOver.rd [] (by decide) rfl) (Nat.le_of_ble_eq_true rfl) ⟨Nat.le_of_ble_eq_true rfl, Nat.le_of_ble_eq_true rfl⟩ d_Rk_doOne_70 rfl rfl ?_
    refine g_icmp_ge (tgt := 78) d_Rk_doOne_73 (by decide) (fun hc => ?_) (fun hc => ?_)
    · replace h := it_t hc h
      refine g_iload_n d_Rk_doOne_78 rfl ?_
      by_cases hc79_112 : x2 = 2
      · replace h := it_t hc79_112 h
        refine g_table (off := 33) (tgt := 112) d_Rk_doOne_79 (by decide) (by rw [hc79_112]; decide +kernel) (by decide) ?_
        refine g_aload_n d_Rk_doOne_112 rfl ?_
        refine g_iload_n d_Rk_doOne_113 rfl ?_
        refine g_iload_n d_Rk_doOne_114 rfl ?_
        obtain ⟨q115, hq115, h⟩ := it_b h
        refine g_callV (ci := 6) (q := (xR_Rk, xF_Rk, 8)) (As := [.int x1, .int x3]) (rest := []) (st2 := [.int q115.1]) (ws2 := [(a_t, .inr (6, [.ref a_rd, .ref a_me, .ref a_fr, .ref a_sk, .int q115.2.1, .int t_hasCfa, .int t_cfa, .int t_begins])), (a_rd, .inr (5, [.ref a_bb, .int rd_at, .int rd_limit, .int rd_broken])), (a_bb, .inl (K 0, 512, .inl bb)), (a_me, .inr (4, [.ref a_mw])), (a_mw, .inl (K 1, 256, .inl mw)), (a_fr, .inr (1, [.ref a_fv, .int fr_known, .int fr_pc, .int fr_unwound])), (a_fv, .inl (K 1, 8, .inl fv)), (a_sk, .inl (K 1, 16, .inl q115.2.2))]) (c_Rk_pushFor l D K a_t a_rd a_me a_fr a_fv a_sk t_height t_hasCfa t_cfa t_begins fr_known fr_pc fr_unwound fv sk x1 x3 q115 hq115) (cs_Rk_78 rfl rfl ⟨Nat.le_of_ble_eq_true rfl, Nat.le_of_ble_eq_true rfl⟩) rfl 0 rfl (gOver.mk2 [0, 5, 6, 7] [some 0, none, none, none, none, some 1, some 2, some 3] (by decide) (by decide) rfl rfl rfl) (Nat.le_of_ble_eq_true rfl) ⟨Nat.le_of_ble_eq_true rfl, Nat.le_of_ble_eq_true rfl⟩ d_Rk_doOne_115 rfl rfl ?_
        obtain rfl := Option.some.inj h
        exact g_iret rfl d_Rk_doOne_118
      replace h := it_f hc79_112 h
      by_cases hc79_119 : x2 = 3
      · replace h := it_t hc79_119 h
        refine g_table (off := 40) (tgt := 119) d_Rk_doOne_79 (by decide) (by rw [hc79_119]; decide +kernel) (by decide) ?_
        refine g_aload_n d_Rk_doOne_119 rfl ?_
        refine g_iload_n d_Rk_doOne_120 rfl ?_
        refine g_iload_n d_Rk_doOne_121 rfl ?_
        obtain ⟨q122, hq122, h⟩ := it_b h
        refine g_callV (ci := 6) (q := (xR_Rk, xF_Rk, 8)) (As := [.int x1, .int x3]) (rest := []) (st2 := [.int q122.1]) (ws2 := [(a_t, .inr (6, [.ref a_rd, .ref a_me, .ref a_fr, .ref a_sk, .int t_height, .int t_hasCfa, .int t_cfa, .int t_begins])), (a_rd, .inr (5, [.ref a_bb, .int rd_at, .int rd_limit, .int rd_broken])), (a_bb, .inl (K 0, 512, .inl bb)), (a_me, .inr (4, [.ref a_mw])), (a_mw, .inl (K 1, 256, .inl mw)), (a_fr, .inr (1, [.ref a_fv, .int fr_known, .int fr_pc, .int fr_unwound])), (a_fv, .inl (K 1, 8, .inl fv)), (a_sk, .inl (K 1, 16, .inl q122.2))]) (c_Rk_changeTop l D K a_t a_rd a_me a_mw a_fr a_sk t_height t_hasCfa t_cfa t_begins mw sk x1 x3 q122 hq122) (cs_Rk_82 rfl rfl ⟨Nat.le_of_ble_eq_true rfl, Nat.le_of_ble_eq_true rfl⟩) rfl 0 rfl (gOver.mk2 [0, 3, 4, 7] [some 0, none, none, some 1, some 2, none, none, some 3] (by decide) (by decide) rfl rfl rfl) (Nat.le_of_ble_eq_true rfl) ⟨Nat.le_of_ble_eq_true rfl, Nat.le_of_ble_eq_true rfl⟩ d_Rk_doOne_122 rfl rfl ?_
        obtain rfl := Option.some.inj h
        exact g_iret rfl d_Rk_doOne_125
      replace h := it_f hc79_119 h
      by_cases hc79_126 : x2 = 4
      · replace h := it_t hc79_126 h
        refine g_table (off := 47) (tgt := 126) d_Rk_doOne_79 (by decide) (by rw [hc79_126]; decide +kernel) (by decide) ?_
        refine g_aload_n d_Rk_doOne_126 rfl ?_
        refine g_iload_n d_Rk_doOne_127 rfl ?_
        obtain ⟨q128, hq128, h⟩ := it_b h
        refine g_callV (ci := 6) (q := (xR_Rk, xF_Rk, 8)) (As := [.int x1]) (rest := []) (st2 := [.int q128.1]) (ws2 := [(a_t, .inr (6, [.ref a_rd, .ref a_me, .ref a_fr, .ref a_sk, .int q128.2.1, .int t_hasCfa, .int t_cfa, .int t_begins])), (a_rd, .inr (5, [.ref a_bb, .int rd_at, .int rd_limit, .int rd_broken])), (a_bb, .inl (K 0, 512, .inl bb)), (a_me, .inr (4, [.ref a_mw])), (a_mw, .inl (K 1, 256, .inl mw)), (a_fr, .inr (1, [.ref a_fv, .int fr_known, .int fr_pc, .int fr_unwound])), (a_fv, .inl (K 1, 8, .inl fv)), (a_sk, .inl (K 1, 16, .inl q128.2.2))]) (c_Rk_joinTwo l D K a_t a_rd a_me a_fr a_sk t_height t_hasCfa t_cfa t_begins sk x1 q128 hq128) (cs_Rk_85 rfl rfl ⟨Nat.le_of_ble_eq_true rfl, Nat.le_of_ble_eq_true rfl⟩) rfl 0 rfl (gOver.mk2 [0, 7] [some 0, none, none, none, none, none, none, some 1] (by decide) (by decide) rfl rfl rfl) (Nat.le_of_ble_eq_true rfl) ⟨Nat.le_of_ble_eq_true rfl, Nat.le_of_ble_eq_true rfl⟩ d_Rk_doOne_128 rfl rfl ?_
        obtain rfl := Option.some.inj h
        exact g_iret rfl d_Rk_doOne_131
      replace h := it_f hc79_126 h
      by_cases hc79_132 : x2 = 5
      · replace h := it_t hc79_132 h
        refine g_table (off := 53) (tgt := 132) d_Rk_doOne_79 (by decide) (by rw [hc79_132]; decide +kernel) (by decide) ?_
        refine g_aload_n d_Rk_doOne_132 rfl ?_
        refine g_iload_n d_Rk_doOne_133 rfl ?_
        obtain ⟨q134, hq134, h⟩ := it_b h
        refine g_callV (ci := 6) (q := (xR_Rk, xF_Rk, 8)) (As := [.int x1]) (rest := []) (st2 := [.int q134.1]) (ws2 := [(a_t, .inr (6, [.ref a_rd, .ref a_me, .ref a_fr, .ref a_sk, .int q134.2.1, .int t_hasCfa, .int t_cfa, .int t_begins])), (a_rd, .inr (5, [.ref a_bb, .int rd_at, .int rd_limit, .int rd_broken])), (a_bb, .inl (K 0, 512, .inl bb)), (a_me, .inr (4, [.ref a_mw])), (a_mw, .inl (K 1, 256, .inl mw)), (a_fr, .inr (1, [.ref a_fv, .int fr_known, .int fr_pc, .int fr_unwound])), (a_fv, .inl (K 1, 8, .inl fv)), (a_sk, .inl (K 1, 16, .inl q134.2.2))]) (c_Rk_move l D K a_t a_rd a_me a_fr a_sk t_height t_hasCfa t_cfa t_begins sk x1 q134 hq134) (cs_Rk_88 rfl rfl ⟨Nat.le_of_ble_eq_true rfl, Nat.le_of_ble_eq_true rfl⟩) rfl 0 rfl (gOver.mk2 [0, 7] [some 0, none, none, none, none, none, none, some 1] (by decide) (by decide) rfl rfl rfl) (Nat.le_of_ble_eq_true rfl) ⟨Nat.le_of_ble_eq_true rfl, Nat.le_of_ble_eq_true rfl⟩ d_Rk_doOne_134 rfl rfl ?_
        obtain rfl := Option.some.inj h
        exact g_iret rfl d_Rk_doOne_137
      replace h := it_f hc79_132 h
      by_cases hc79_138 : x2 = 6
      · replace h := it_t hc79_138 h
        refine g_table (off := 59) (tgt := 138) d_Rk_doOne_79 (by decide) (by rw [hc79_138]; decide +kernel) (by decide) ?_
        refine g_aload_n d_Rk_doOne_138 rfl ?_
        refine g_iload_n d_Rk_doOne_139 rfl ?_
        refine g_iload_n d_Rk_doOne_140 rfl ?_
        obtain ⟨q141, hq141, h⟩ := it_b h
        refine g_callV (ci := 6) (q := (xR_Rk, xF_Rk, 8)) (As := [.int x1, .int x3]) (rest := []) (st2 := [.int q141.1]) (ws2 := [(a_t, .inr (6, [.ref a_rd, .ref a_me, .ref a_fr, .ref a_sk, .int q141.2.1, .int t_hasCfa, .int t_cfa, .int t_begins])), (a_rd, .inr (5, [.ref a_bb, .int q141.2.2, .int rd_limit, .int rd_broken])), (a_bb, .inl (K 0, 512, .inl bb)), (a_me, .inr (4, [.ref a_mw])), (a_mw, .inl (K 1, 256, .inl mw)), (a_fr, .inr (1, [.ref a_fv, .int fr_known, .int fr_pc, .int fr_unwound])), (a_fv, .inl (K 1, 8, .inl fv)), (a_sk, .inl (K 1, 16, .inl sk))]) (c_Rk_jump l D K a_t a_rd a_bb a_me a_fr a_sk t_height t_hasCfa t_cfa t_begins rd_at rd_limit rd_broken sk x1 x3 q141 hq141) (cs_Rk_91 rfl rfl ⟨Nat.le_of_ble_eq_true rfl, Nat.le_of_ble_eq_true rfl⟩) rfl 0 rfl (gOver.mk2 [0, 1, 7] [some 0, some 1, none, none, none, none, none, some 2] (by decide) (by decide) rfl rfl rfl) (Nat.le_of_ble_eq_true rfl) ⟨Nat.le_of_ble_eq_true rfl, Nat.le_of_ble_eq_true rfl⟩ d_Rk_doOne_141 rfl rfl ?_
        obtain rfl := Option.some.inj h
        exact g_iret rfl d_Rk_doOne_144
      replace h := it_f hc79_138 h
      refine g_table (off := 66) (tgt := 145) d_Rk_doOne_79 (by decide) (by simp only [gTabL]; rw [lv_osw hc79_112 (by decide), lv_osw hc79_119 (by decide), lv_osw hc79_126 (by decide), lv_osw hc79_132 (by decide), lv_osw hc79_138 (by decide)]; rfl) (by decide) ?_
      refine g_iconst (v := 0) d_Rk_doOne_145 (by decide) ?_
      obtain rfl := Option.some.inj h
      exact g_iret rfl d_Rk_doOne_146
    · replace h := it_f hc h
      refine g_iconst (v := 3) d_Rk_doOne_76 (by decide) ?_
      obtain rfl := Option.some.inj h
      exact g_iret rfl d_Rk_doOne_77
def f_Rk_doOne (t_height : Int32) (t_hasCfa : Int32) (t_cfa : Int32) (t_begins : Int32) (rd_at : Int32) (rd_limit : Int32) (rd_broken : Int32) (bb : Nat → Int32) (mw : Nat → Int32) (fr_known : Int32) (fv : Nat → Int32) (sk : Nat → Int32) : Option (Int32 × Int32 × Int32 × Int32 × (Nat → Int32)) := ((f_Rd_unsigned rd_at rd_limit rd_broken bb 1).bind fun q5 => ((f_Rk_familyOf t_hasCfa q5.1).bind fun q11 => ((f_Rk_operandOf q5.2.1 rd_limit q5.2.2 bb q5.1).bind fun q17 => if q11 = 0 then (some (2, t_height, q17.2.1, q17.2.2, sk)) else (if q17.2.2 = 0 then (if q11 = 2 then (if t_height < 16 then (f_Rk_doOne_56 t_height t_hasCfa t_cfa t_begins q17.2.1 rd_limit q17.2.2 bb mw fr_known fv sk q5.1 q11 q17.1 0) else (f_Rk_doOne_56 t_height t_hasCfa t_cfa t_begins q17.2.1 rd_limit q17.2.2 bb mw fr_known fv sk q5.1 q11 q17.1 1)) else (f_Rk_doOne_56 t_height t_hasCfa t_cfa t_begins q17.2.1 rd_limit q17.2.2 bb mw fr_known fv sk q5.1 q11 q17.1 0)) else (some (2, t_height, q17.2.1, q17.2.2, sk))))))
set_option maxRecDepth 100000 in
set_option maxHeartbeats 4000000 in
theorem c_Rk_doOne (l : Launch) (D : va_G) (K : Nat → ClassId) (a_t a_rd a_bb a_me a_mw a_fr a_fv a_sk : Nat) (t_height : Int32) (t_hasCfa : Int32) (t_cfa : Int32) (t_begins : Int32) (rd_at : Int32) (rd_limit : Int32) (rd_broken : Int32) (bb : Nat → Int32) (mw : Nat → Int32) (fr_known : Int32) (fr_pc : Int32) (fr_unwound : Int32) (fv : Nat → Int32) (sk : Nat → Int32) (o : Int32 × Int32 × Int32 × Int32 × (Nat → Int32)) (h : f_Rk_doOne t_height t_hasCfa t_cfa t_begins rd_at rd_limit rd_broken bb mw fr_known fv sk = some o) : Ct l y_Rk_doOne b_Rk_doOne 5 (some .int) { frames := 3, cells := 0, slots := 0, locals := 67 } D vwCl (xTy K) [.ref a_t] [(a_t, .inr (6, [.ref a_rd, .ref a_me, .ref a_fr, .ref a_sk, .int t_height, .int t_hasCfa, .int t_cfa, .int t_begins])), (a_rd, .inr (5, [.ref a_bb, .int rd_at, .int rd_limit, .int rd_broken])), (a_bb, .inl (K 0, 512, .inl bb)), (a_me, .inr (4, [.ref a_mw])), (a_mw, .inl (K 1, 256, .inl mw)), (a_fr, .inr (1, [.ref a_fv, .int fr_known, .int fr_pc, .int fr_unwound])), (a_fv, .inl (K 1, 8, .inl fv)), (a_sk, .inl (K 1, 16, .inl sk))] (some (.int o.1)) [(a_t, .inr (6, [.ref a_rd, .ref a_me, .ref a_fr, .ref a_sk, .int o.2.1, .int t_hasCfa, .int t_cfa, .int t_begins])), (a_rd, .inr (5, [.ref a_bb, .int o.2.2.1, .int rd_limit, .int o.2.2.2.1])), (a_bb, .inl (K 0, 512, .inl bb)), (a_me, .inr (4, [.ref a_mw])), (a_mw, .inl (K 1, 256, .inl mw)), (a_fr, .inr (1, [.ref a_fv, .int fr_known, .int fr_pc, .int fr_unwound])), (a_fv, .inl (K 1, 8, .inl fv)), (a_sk, .inl (K 1, 16, .inl o.2.2.2.2))] := by
  refine Ct.ofG (by decide) (Nat.le_of_ble_eq_true rfl) ?_
  refine g_L (L' := [(0, .ref a_t)]) rfl ?_
  unfold f_Rk_doOne at h
  refine g_aload_n d_Rk_doOne_0 rfl ?_
  refine gf_Rk_9 0 rfl (v := .ref a_rd) rfl d_Rk_doOne_1 ?_
  refine g_iconst (v := 1) d_Rk_doOne_4 (by decide) ?_
  obtain ⟨q5, hq5, h⟩ := it_b h
  refine g_callV (ci := 5) (q := (xR_Rd, xF_Rd, 4)) (As := [.int 1]) (rest := []) (st2 := [.int q5.1]) (ws2 := [(a_t, .inr (6, [.ref a_rd, .ref a_me, .ref a_fr, .ref a_sk, .int t_height, .int t_hasCfa, .int t_cfa, .int t_begins])), (a_rd, .inr (5, [.ref a_bb, .int q5.2.1, .int rd_limit, .int q5.2.2])), (a_bb, .inl (K 0, 512, .inl bb)), (a_me, .inr (4, [.ref a_mw])), (a_mw, .inl (K 1, 256, .inl mw)), (a_fr, .inr (1, [.ref a_fv, .int fr_known, .int fr_pc, .int fr_unwound])), (a_fv, .inl (K 1, 8, .inl fv)), (a_sk, .inl (K 1, 16, .inl sk))]) (c_Rd_unsigned l D K a_rd a_bb rd_at rd_limit rd_broken bb 1 q5 hq5) (cs_Rk_61 rfl rfl ⟨Nat.le_of_ble_eq_true rfl, Nat.le_of_ble_eq_true rfl⟩) rfl 1 rfl (gOver.mk2 [1, 2] [none, some 0, some 1, none, none, none, none, none] (by decide) (by decide) rfl rfl rfl) (Nat.le_of_ble_eq_true rfl) ⟨Nat.le_of_ble_eq_true rfl, Nat.le_of_ble_eq_true rfl⟩ d_Rk_doOne_5 rfl rfl ?_
  refine g_istore_n (L' := [(1, .int q5.1), (0, .ref a_t)]) d_Rk_doOne_8 (by decide) rfl ?_
  refine g_aload_n d_Rk_doOne_9 rfl ?_
  refine g_iload_n d_Rk_doOne_10 rfl ?_
  obtain ⟨q11, hq11, h⟩ := it_b h
  refine g_callV (ci := 6) (q := (xR_Rk, xF_Rk, 8)) (As := [.int q5.1]) (rest := []) (st2 := [.int q11]) (ws2 := [(a_t, .inr (6, [.ref a_rd, .ref a_me, .ref a_fr, .ref a_sk, .int t_height, .int t_hasCfa, .int t_cfa, .int t_begins])), (a_rd, .inr (5, [.ref a_bb, .int q5.2.1, .int rd_limit, .int q5.2.2])), (a_bb, .inl (K 0, 512, .inl bb)), (a_me, .inr (4, [.ref a_mw])), (a_mw, .inl (K 1, 256, .inl mw)), (a_fr, .inr (1, [.ref a_fv, .int fr_known, .int fr_pc, .int fr_unwound])), (a_fv, .inl (K 1, 8, .inl fv)), (a_sk, .inl (K 1, 16, .inl sk))]) (c_Rk_familyOf l D K a_t a_rd a_me a_fr a_sk t_height t_hasCfa t_cfa t_begins q5.1 q11 hq11) (cs_Rk_65 rfl rfl ⟨Nat.le_of_ble_eq_true rfl, Nat.le_of_ble_eq_true rfl⟩) rfl 0 rfl (gOver.rd [0] (by decide) rfl) (Nat.le_of_ble_eq_true rfl) ⟨Nat.le_of_ble_eq_true rfl, Nat.le_of_ble_eq_true rfl⟩ d_Rk_doOne_11 rfl rfl ?_
  refine g_istore_n (L' := [(2, .int q11), (1, .int q5.1), (0, .ref a_t)]) d_Rk_doOne_14 (by decide) rfl ?_
  refine g_aload_n d_Rk_doOne_15 rfl ?_
  refine g_iload_n d_Rk_doOne_16 rfl ?_
  obtain ⟨q17, hq17, h⟩ := it_b h
  refine g_callV (ci := 6) (q := (xR_Rk, xF_Rk, 8)) (As := [.int q5.1]) (rest := []) (st2 := [.int q17.1]) (ws2 := [(a_t, .inr (6, [.ref a_rd, .ref a_me, .ref a_fr, .ref a_sk, .int t_height, .int t_hasCfa, .int t_cfa, .int t_begins])), (a_rd, .inr (5, [.ref a_bb, .int q17.2.1, .int rd_limit, .int q17.2.2])), (a_bb, .inl (K 0, 512, .inl bb)), (a_me, .inr (4, [.ref a_mw])), (a_mw, .inl (K 1, 256, .inl mw)), (a_fr, .inr (1, [.ref a_fv, .int fr_known, .int fr_pc, .int fr_unwound])), (a_fv, .inl (K 1, 8, .inl fv)), (a_sk, .inl (K 1, 16, .inl sk))]) (c_Rk_operandOf l D K a_t a_rd a_bb a_me a_fr a_sk t_height t_hasCfa t_cfa t_begins q5.2.1 rd_limit q5.2.2 bb q5.1 q17 hq17) (cs_Rk_68 rfl rfl ⟨Nat.le_of_ble_eq_true rfl, Nat.le_of_ble_eq_true rfl⟩) rfl 0 rfl (gOver.mk2 [0, 1, 2] [some 0, some 1, some 2, none, none, none, none, none] (by decide) (by decide) rfl rfl rfl) (Nat.le_of_ble_eq_true rfl) ⟨Nat.le_of_ble_eq_true rfl, Nat.le_of_ble_eq_true rfl⟩ d_Rk_doOne_17 rfl rfl ?_
  refine g_istore_n (L' := [(3, .int q17.1), (2, .int q11), (1, .int q5.1), (0, .ref a_t)]) d_Rk_doOne_20 (by decide) rfl ?_
  refine g_iload_n d_Rk_doOne_21 rfl ?_
  refine g_if_eq (tgt := 35) d_Rk_doOne_22 (by decide) (fun hc => ?_) (fun hc => ?_)
  · replace h := it_t hc h
    refine g_iconst (v := 2) d_Rk_doOne_35 (by decide) ?_
    obtain rfl := Option.some.inj h
    exact g_iret rfl d_Rk_doOne_36
  · replace h := it_f hc h
    refine g_aload_n d_Rk_doOne_25 rfl ?_
    refine gf_Rk_9 0 rfl (v := .ref a_rd) rfl d_Rk_doOne_26 ?_
    refine gf_Rk_71 1 rfl (v := .int q17.2.2) rfl d_Rk_doOne_29 ?_
    refine g_if_eq (tgt := 37) d_Rk_doOne_32 (by decide) (fun hc => ?_) (fun hc => ?_)
    · replace h := it_t hc h
      refine g_iload_n d_Rk_doOne_37 rfl ?_
      refine g_iconst (v := 2) d_Rk_doOne_38 (by decide) ?_
      refine g_icmp_ne (tgt := 55) d_Rk_doOne_39 (by decide) (fun hc => ?_) (fun hc => ?_)
      · replace h := it_f hc h
        refine g_iconst (v := 0) d_Rk_doOne_55 (by decide) ?_
        refine g_lsub (L' := [(0, .ref a_t), (1, .int q5.1), (2, .int q11), (3, .int q17.1)]) [3, 2, 1, 0] rfl ?_
        exact j_Rk_doOne_56 l D K a_t a_rd a_bb a_me a_mw a_fr a_fv a_sk t_height t_hasCfa t_cfa t_begins q17.2.1 rd_limit q17.2.2 bb mw fr_known fr_pc fr_unwound fv sk q5.1 q11 q17.1 0 o h
      · replace h := it_t hc h
        refine g_aload_n d_Rk_doOne_42 rfl ?_
        refine gf_Rk_27 0 rfl (v := .int t_height) rfl d_Rk_doOne_43 ?_
        refine g_bipush (v := 16) d_Rk_doOne_46 (by decide) ?_
        refine g_icmp_lt (tgt := 55) d_Rk_doOne_48 (by decide) (fun hc => ?_) (fun hc => ?_)
        · replace h := it_t hc h
          refine g_iconst (v := 0) d_Rk_doOne_55 (by decide) ?_
          refine g_lsub (L' := [(0, .ref a_t), (1, .int q5.1), (2, .int q11), (3, .int q17.1)]) [3, 2, 1, 0] rfl ?_
          exact j_Rk_doOne_56 l D K a_t a_rd a_bb a_me a_mw a_fr a_fv a_sk t_height t_hasCfa t_cfa t_begins q17.2.1 rd_limit q17.2.2 bb mw fr_known fr_pc fr_unwound fv sk q5.1 q11 q17.1 0 o h
        · replace h := it_f hc h
          refine g_iconst (v := 1) d_Rk_doOne_51 (by decide) ?_
          refine g_goto (tgt := 56) d_Rk_doOne_52 (by decide) ?_
          refine g_lsub (L' := [(0, .ref a_t), (1, .int q5.1), (2, .int q11), (3, .int q17.1)]) [3, 2, 1, 0] rfl ?_
          exact j_Rk_doOne_56 l D K a_t a_rd a_bb a_me a_mw a_fr a_fv a_sk t_height t_hasCfa t_cfa t_begins q17.2.1 rd_limit q17.2.2 bb mw fr_known fr_pc fr_unwound fv sk q5.1 q11 q17.1 1 o h
    · replace h := it_f hc h
      refine g_iconst (v := 2) d_Rk_doOne_35 (by decide) ?_
      obtain rfl := Option.some.inj h
      exact g_iret rfl d_Rk_doOne_36
def f_Rk_run_17 : Nat → Int32 → Int32 → Int32 → Int32 → Int32 → Int32 → Int32 → (Nat → Int32) → (Nat → Int32) → Int32 → (Nat → Int32) → (Nat → Int32) → Int32 → Int32 → Int32 → Int32 → Option (Int32 × Int32 × Int32 × Int32 × Int32 × Int32 × (Nat → Int32))
  | 0, _, _, _, _, _, _, _, _, _, _, _, _, _, _, _, _ => none
  | n + 1, t_height, t_hasCfa, t_cfa, t_begins, rd_at, rd_limit, rd_broken, bb, mw, fr_known, fv, sk, x1, x2, x3, x4 => if rd_limit ≤ rd_at then (if t_height ≤ 0 then (some (3, t_height, t_begins, rd_at, rd_limit, rd_broken, sk)) else (some (0, t_height, t_begins, rd_at, rd_limit, rd_broken, sk))) else (if 0 < x4 then (((f_Rk_doOne t_height t_hasCfa t_cfa t_begins rd_at rd_limit rd_broken bb mw fr_known fv sk).bind fun q42 => if q42.1 = 0 then (f_Rk_run_17 n q42.2.1 t_hasCfa t_cfa t_begins q42.2.2.1 rd_limit q42.2.2.2.1 bb mw fr_known fv q42.2.2.2.2 x1 x2 x3 (x4 + (-1))) else (some (q42.1, q42.2.1, t_begins, q42.2.2.1, rd_limit, q42.2.2.2.1, q42.2.2.2.2)))) else (some (1, t_height, t_begins, rd_at, rd_limit, rd_broken, sk)))
set_option maxRecDepth 100000 in
set_option maxHeartbeats 4000000 in
theorem j_Rk_run_17 (l : Launch) (D : va_G) (K : Nat → ClassId) (a_t a_rd a_bb a_me a_mw a_fr a_fv a_sk : Nat) {av : List Value} {w0 : va_W} (n : Nat) (t_height : Int32) (t_hasCfa : Int32) (t_cfa : Int32) (t_begins : Int32) (rd_at : Int32) (rd_limit : Int32) (rd_broken : Int32) (bb : Nat → Int32) (mw : Nat → Int32) (fr_known : Int32) (fr_pc : Int32) (fr_unwound : Int32) (fv : Nat → Int32) (sk : Nat → Int32) (x1 : Int32) (x2 : Int32) (x3 : Int32) (x4 : Int32) (o : Int32 × Int32 × Int32 × Int32 × Int32 × Int32 × (Nat → Int32)) (h : f_Rk_run_17 n t_height t_hasCfa t_cfa t_begins rd_at rd_limit rd_broken bb mw fr_known fv sk x1 x2 x3 x4 = some o) : Gm l y_Rk_run b_Rk_run 6 (some .int) { frames := 4, cells := 0, slots := 0, locals := 91 } D vwCl (xTy K) av w0 (CtF D vwCl av w0 (some (.int o.1)) [(a_t, .inr (6, [.ref a_rd, .ref a_me, .ref a_fr, .ref a_sk, .int o.2.1, .int t_hasCfa, .int t_cfa, .int o.2.2.1])), (a_rd, .inr (5, [.ref a_bb, .int o.2.2.2.1, .int o.2.2.2.2.1, .int o.2.2.2.2.2.1])), (a_bb, .inl (K 0, 512, .inl bb)), (a_me, .inr (4, [.ref a_mw])), (a_mw, .inl (K 1, 256, .inl mw)), (a_fr, .inr (1, [.ref a_fv, .int fr_known, .int fr_pc, .int fr_unwound])), (a_fv, .inl (K 1, 8, .inl fv)), (a_sk, .inl (K 1, 16, .inl o.2.2.2.2.2.2))]) 0 0 [(a_t, .inr (6, [.ref a_rd, .ref a_me, .ref a_fr, .ref a_sk, .int t_height, .int t_hasCfa, .int t_cfa, .int t_begins])), (a_rd, .inr (5, [.ref a_bb, .int rd_at, .int rd_limit, .int rd_broken])), (a_bb, .inl (K 0, 512, .inl bb)), (a_me, .inr (4, [.ref a_mw])), (a_mw, .inl (K 1, 256, .inl mw)), (a_fr, .inr (1, [.ref a_fv, .int fr_known, .int fr_pc, .int fr_unwound])), (a_fv, .inl (K 1, 8, .inl fv)), (a_sk, .inl (K 1, 16, .inl sk))] [(0, .ref a_t), (1, .int x1), (2, .int x2), (3, .int x3), (4, .int x4)] 17 [] := by
  induction n generalizing t_height t_hasCfa t_cfa t_begins rd_at rd_limit rd_broken bb mw fr_known fr_pc fr_unwound fv sk x1 x2 x3 x4 with
  | zero => exact absurd h (by rw [f_Rk_run_17]; exact fun z => nomatch z)
  | succ n ih =>
    rw [f_Rk_run_17] at h
    refine g_aload_n d_Rk_run_17 rfl ?_
    refine gf_Rk_9 0 rfl (v := .ref a_rd) rfl d_Rk_run_18 ?_
    refine gf_Rk_51 1 rfl (v := .int rd_at) rfl d_Rk_run_21 ?_
    refine g_aload_n d_Rk_run_24 rfl ?_
    refine gf_Rk_9 0 rfl (v := .ref a_rd) rfl d_Rk_run_25 ?_
    refine gf_Rk_54 1 rfl (v := .int rd_limit) rfl d_Rk_run_28 ?_
    refine g_icmp_ge (tgt := 61) d_Rk_run_31 (by decide) (fun hc => ?_) (fun hc => ?_)
    · replace h := it_t hc h
      refine g_aload_n d_Rk_run_61 rfl ?_
      refine gf_Rk_27 0 rfl (v := .int t_height) rfl d_Rk_run_62 ?_
      refine g_if_le (tgt := 72) d_Rk_run_65 (by decide) (fun hc => ?_) (fun hc => ?_)
      · replace h := it_t hc h
        refine g_iconst (v := 3) d_Rk_run_72 (by decide) ?_
        obtain rfl := Option.some.inj h
        exact g_iret rfl d_Rk_run_73
      · replace h := it_f hc h
        refine g_iconst (v := 0) d_Rk_run_68 (by decide) ?_
        refine g_goto (tgt := 73) d_Rk_run_69 (by decide) ?_
        obtain rfl := Option.some.inj h
        exact g_iret rfl d_Rk_run_73
    · replace h := it_f hc h
      refine g_iload d_Rk_run_34 rfl ?_
      refine g_if_gt (tgt := 41) d_Rk_run_36 (by decide) (fun hc => ?_) (fun hc => ?_)
      · replace h := it_t hc h
        refine g_aload_n d_Rk_run_41 rfl ?_
        obtain ⟨q42, hq42, h⟩ := it_b h
        refine g_callV (ci := 6) (q := (xR_Rk, xF_Rk, 8)) (As := []) (rest := []) (st2 := [.int q42.1]) (ws2 := [(a_t, .inr (6, [.ref a_rd, .ref a_me, .ref a_fr, .ref a_sk, .int q42.2.1, .int t_hasCfa, .int t_cfa, .int t_begins])), (a_rd, .inr (5, [.ref a_bb, .int q42.2.2.1, .int rd_limit, .int q42.2.2.2.1])), (a_bb, .inl (K 0, 512, .inl bb)), (a_me, .inr (4, [.ref a_mw])), (a_mw, .inl (K 1, 256, .inl mw)), (a_fr, .inr (1, [.ref a_fv, .int fr_known, .int fr_pc, .int fr_unwound])), (a_fv, .inl (K 1, 8, .inl fv)), (a_sk, .inl (K 1, 16, .inl q42.2.2.2.2))]) (c_Rk_doOne l D K a_t a_rd a_bb a_me a_mw a_fr a_fv a_sk t_height t_hasCfa t_cfa t_begins rd_at rd_limit rd_broken bb mw fr_known fr_pc fr_unwound fv sk q42 hq42) (cs_Rk_57 rfl rfl ⟨Nat.le_of_ble_eq_true rfl, Nat.le_of_ble_eq_true rfl⟩) rfl 0 rfl (gOver.mk2 [0, 1, 2, 3, 4, 5, 6, 7] [some 0, some 1, some 2, some 3, some 4, some 5, some 6, some 7] (by decide) (by decide) rfl rfl rfl) (Nat.le_of_ble_eq_true rfl) ⟨Nat.le_of_ble_eq_true rfl, Nat.le_of_ble_eq_true rfl⟩ d_Rk_run_42 rfl rfl ?_
        refine g_istore (L' := [(5, .int q42.1), (0, .ref a_t), (1, .int x1), (2, .int x2), (3, .int x3), (4, .int x4)]) d_Rk_run_45 (by decide) rfl ?_
        refine g_iload d_Rk_run_47 rfl ?_
        refine g_if_eq (tgt := 55) d_Rk_run_49 (by decide) (fun hc => ?_) (fun hc => ?_)
        · replace h := it_t hc h
          refine g_iinc (k := 5) (v := x4 + (-1)) (L' := [(4, .int (x4 + (-1))), (5, .int q42.1), (0, .ref a_t), (1, .int x1), (2, .int x2), (3, .int x3)]) d_Rk_run_55 rfl (by first | rfl | decide) (by decide) rfl ?_
          refine g_goto (tgt := 17) d_Rk_run_58 (by decide) ?_
          refine g_lsub (L' := [(0, .ref a_t), (1, .int x1), (2, .int x2), (3, .int x3), (4, .int (x4 + (-1)))]) [2, 3, 4, 5, 0] rfl ?_
          exact ih q42.2.1 t_hasCfa t_cfa t_begins q42.2.2.1 rd_limit q42.2.2.2.1 bb mw fr_known fr_pc fr_unwound fv q42.2.2.2.2 x1 x2 x3 (x4 + (-1)) h
        · replace h := it_f hc h
          refine g_iload d_Rk_run_52 rfl ?_
          obtain rfl := Option.some.inj h
          exact g_iret rfl d_Rk_run_54
      · replace h := it_f hc h
        refine g_iconst (v := 1) d_Rk_run_39 (by decide) ?_
        obtain rfl := Option.some.inj h
        exact g_iret rfl d_Rk_run_40
def f_Rk_run (t_height : Int32) (t_hasCfa : Int32) (t_cfa : Int32) (t_begins : Int32) (rd_at : Int32) (rd_limit : Int32) (rd_broken : Int32) (bb : Nat → Int32) (mw : Nat → Int32) (fr_known : Int32) (fv : Nat → Int32) (sk : Nat → Int32) (b1 : Int32) (b2 : Int32) (u1 : Int32) : Option (Int32 × Int32 × Int32 × Int32 × Int32 × Int32 × (Nat → Int32)) := ((f_Rd_open rd_at rd_limit rd_broken b1 b2).bind fun q11 => f_Rk_run_17 LF t_height t_hasCfa t_cfa b1 q11.1 q11.2.1 q11.2.2 bb mw fr_known fv sk b1 b2 u1 u1)
set_option maxRecDepth 100000 in
set_option maxHeartbeats 4000000 in
theorem c_Rk_run (l : Launch) (D : va_G) (K : Nat → ClassId) (a_t a_rd a_bb a_me a_mw a_fr a_fv a_sk : Nat) (t_height : Int32) (t_hasCfa : Int32) (t_cfa : Int32) (t_begins : Int32) (rd_at : Int32) (rd_limit : Int32) (rd_broken : Int32) (bb : Nat → Int32) (mw : Nat → Int32) (fr_known : Int32) (fr_pc : Int32) (fr_unwound : Int32) (fv : Nat → Int32) (sk : Nat → Int32) (b1 : Int32) (b2 : Int32) (u1 : Int32) (o : Int32 × Int32 × Int32 × Int32 × Int32 × Int32 × (Nat → Int32)) (h : f_Rk_run t_height t_hasCfa t_cfa t_begins rd_at rd_limit rd_broken bb mw fr_known fv sk b1 b2 u1 = some o) : Ct l y_Rk_run b_Rk_run 6 (some .int) { frames := 4, cells := 0, slots := 0, locals := 91 } D vwCl (xTy K) [.ref a_t, .int b1, .int b2, .int u1] [(a_t, .inr (6, [.ref a_rd, .ref a_me, .ref a_fr, .ref a_sk, .int t_height, .int t_hasCfa, .int t_cfa, .int t_begins])), (a_rd, .inr (5, [.ref a_bb, .int rd_at, .int rd_limit, .int rd_broken])), (a_bb, .inl (K 0, 512, .inl bb)), (a_me, .inr (4, [.ref a_mw])), (a_mw, .inl (K 1, 256, .inl mw)), (a_fr, .inr (1, [.ref a_fv, .int fr_known, .int fr_pc, .int fr_unwound])), (a_fv, .inl (K 1, 8, .inl fv)), (a_sk, .inl (K 1, 16, .inl sk))] (some (.int o.1)) [(a_t, .inr (6, [.ref a_rd, .ref a_me, .ref a_fr, .ref a_sk, .int o.2.1, .int t_hasCfa, .int t_cfa, .int o.2.2.1])), (a_rd, .inr (5, [.ref a_bb, .int o.2.2.2.1, .int o.2.2.2.2.1, .int o.2.2.2.2.2.1])), (a_bb, .inl (K 0, 512, .inl bb)), (a_me, .inr (4, [.ref a_mw])), (a_mw, .inl (K 1, 256, .inl mw)), (a_fr, .inr (1, [.ref a_fv, .int fr_known, .int fr_pc, .int fr_unwound])), (a_fv, .inl (K 1, 8, .inl fv)), (a_sk, .inl (K 1, 16, .inl o.2.2.2.2.2.2))] := by
  refine Ct.ofG (by decide) (Nat.le_of_ble_eq_true rfl) ?_
  refine g_L (L' := [(0, .ref a_t), (1, .int b1), (2, .int b2), (3, .int u1)]) rfl ?_
  unfold f_Rk_run at h
  refine g_aload_n d_Rk_run_0 rfl ?_
  refine g_iload_n d_Rk_run_1 rfl ?_
  refine pf_Rk_42 0 rfl (v := .int b1) rfl rfl (Nat.le_of_ble_eq_true rfl) (ws' := [(a_t, .inr (6, [.ref a_rd, .ref a_me, .ref a_fr, .ref a_sk, .int t_height, .int t_hasCfa, .int t_cfa, .int b1])), (a_rd, .inr (5, [.ref a_bb, .int rd_at, .int rd_limit, .int rd_broken])), (a_bb, .inl (K 0, 512, .inl bb)), (a_me, .inr (4, [.ref a_mw])), (a_mw, .inl (K 1, 256, .inl mw)), (a_fr, .inr (1, [.ref a_fv, .int fr_known, .int fr_pc, .int fr_unwound])), (a_fv, .inl (K 1, 8, .inl fv)), (a_sk, .inl (K 1, 16, .inl sk))]) rfl d_Rk_run_2 ?_
  refine g_aload_n d_Rk_run_5 rfl ?_
  refine gf_Rk_9 0 rfl (v := .ref a_rd) rfl d_Rk_run_6 ?_
  refine g_iload_n d_Rk_run_9 rfl ?_
  refine g_iload_n d_Rk_run_10 rfl ?_
  obtain ⟨q11, hq11, h⟩ := it_b h
  refine g_callV (ci := 5) (q := (xR_Rd, xF_Rd, 4)) (As := [.int b1, .int b2]) (rest := []) (st2 := []) (ws2 := [(a_t, .inr (6, [.ref a_rd, .ref a_me, .ref a_fr, .ref a_sk, .int t_height, .int t_hasCfa, .int t_cfa, .int b1])), (a_rd, .inr (5, [.ref a_bb, .int q11.1, .int q11.2.1, .int q11.2.2])), (a_bb, .inl (K 0, 512, .inl bb)), (a_me, .inr (4, [.ref a_mw])), (a_mw, .inl (K 1, 256, .inl mw)), (a_fr, .inr (1, [.ref a_fv, .int fr_known, .int fr_pc, .int fr_unwound])), (a_fv, .inl (K 1, 8, .inl fv)), (a_sk, .inl (K 1, 16, .inl sk))]) (c_Rd_open l D K a_rd a_bb rd_at rd_limit rd_broken b1 b2 q11 hq11) (cs_Rk_45 rfl rfl ⟨Nat.le_of_ble_eq_true rfl, Nat.le_of_ble_eq_true rfl⟩) rfl 1 rfl (gOver.mk2 [1] [none, some 0, none, none, none, none, none, none] (by decide) (by decide) rfl rfl rfl) (Nat.le_of_ble_eq_true rfl) ⟨Nat.le_of_ble_eq_true rfl, Nat.le_of_ble_eq_true rfl⟩ d_Rk_run_11 rfl rfl ?_
  refine g_iload_n d_Rk_run_14 rfl ?_
  refine g_istore (L' := [(4, .int u1), (0, .ref a_t), (1, .int b1), (2, .int b2), (3, .int u1)]) d_Rk_run_15 (by decide) rfl ?_
  refine g_lsub (L' := [(0, .ref a_t), (1, .int b1), (2, .int b2), (3, .int u1), (4, .int u1)]) [1, 2, 3, 4, 0] rfl ?_
  exact j_Rk_run_17 l D K a_t a_rd a_bb a_me a_mw a_fr a_fv a_sk LF t_height t_hasCfa t_cfa b1 q11.1 q11.2.1 q11.2.2 bb mw fr_known fr_pc fr_unwound fv sk b1 b2 u1 u1 o h
