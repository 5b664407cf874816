def f_Se_append_2 : Nat → Int32 → (Nat → Int32) → Int32 → Int32 → Option (Int32 × (Nat → Int32))
  | 0, _, _, _, _ => none
  | n + 1, t_size, bb, x1, x2 => if 4 ≤ x2 then (some (t_size + 4, bb)) else (if (t_size + x2) < 0 ∨ 512 ≤ (t_size + x2).toNatClampNeg then none else f_Se_append_2 n t_size (upd bb (t_size + x2).toNatClampNeg (vp_nar .byte (((x1.toUInt32 >>> ((8 * x2).toUInt32 &&& Int32.toUInt32 31)).toInt32).toInt8.toInt32))) x1 (x2 + 1))
set_option maxRecDepth 100000 in
set_option maxHeartbeats 4000000 in
theorem j_Se_append_2 (l : Launch) (D : va_G) (K : Nat → ClassId) (a_t a_bb : Nat) {av : List Value} {w0 : va_W} (n : Nat) (t_size : Int32) (bb : Nat → Int32) (x1 : Int32) (x2 : Int32) (o : Int32 × (Nat → Int32)) (h : f_Se_append_2 n t_size bb x1 x2 = some o) : Gm l y_Se_append b_Se_append 3 none { frames := 0, cells := 0, slots := 0, locals := 0 } D vwCl (xTy K) av w0 (CtF D vwCl av w0 none [(a_t, .inr (8, [.ref a_bb, .int o.1])), (a_bb, .inl (K 0, 512, .inl o.2))]) 0 0 [(a_t, .inr (8, [.ref a_bb, .int t_size])), (a_bb, .inl (K 0, 512, .inl bb))] [(0, .ref a_t), (1, .int x1), (2, .int x2)] 2 [] := by
  induction n generalizing t_size bb x1 x2 with
  | zero => exact absurd h (by rw [f_Se_append_2]; exact fun z => nomatch z)
  | succ n ih =>
    rw [f_Se_append_2] at h
    refine g_iload_n d_Se_append_2 rfl ?_
    refine g_iconst (v := 4) d_Se_append_3 (by decide) ?_
    refine g_icmp_ge (tgt := 31) d_Se_append_4 (by decide) (fun hc => ?_) (fun hc => ?_)
    · replace h := it_t hc h
      refine g_aload_n d_Se_append_31 rfl ?_
      refine g_dup d_Se_append_32 rfl ?_
      refine gf_Se_15 0 rfl (v := .int t_size) rfl d_Se_append_33 ?_
      refine g_iconst (v := 4) d_Se_append_36 (by decide) ?_
      refine g_iadd d_Se_append_37 ?_
      refine pf_Se_15 0 rfl (v := .int (t_size + 4)) rfl rfl (Nat.le_of_ble_eq_true rfl) (ws' := [(a_t, .inr (8, [.ref a_bb, .int (t_size + 4)])), (a_bb, .inl (K 0, 512, .inl bb))]) rfl d_Se_append_38 ?_
      obtain rfl := Option.some.inj h
      exact g_vret rfl d_Se_append_41
    · replace h := it_f hc h
      refine g_aload_n d_Se_append_7 rfl ?_
      refine gf_Se_9 0 rfl (v := .ref a_bb) rfl d_Se_append_8 ?_
      refine g_aload_n d_Se_append_11 rfl ?_
      refine gf_Se_15 0 rfl (v := .int t_size) rfl d_Se_append_12 ?_
      refine g_iload_n d_Se_append_15 rfl ?_
      refine g_iadd d_Se_append_16 ?_
      refine g_iload_n d_Se_append_17 rfl ?_
      refine g_bipush (v := 8) d_Se_append_18 (by decide) ?_
      refine g_iload_n d_Se_append_20 rfl ?_
      refine g_imul d_Se_append_21 ?_
      refine g_iushr d_Se_append_22 ?_
      refine g_i2b d_Se_append_23 ?_
      obtain ⟨hi24, h⟩ := it_in h
      refine g_bast 1 0 (ws' := [(a_t, .inr (8, [.ref a_bb, .int t_size])), (a_bb, .inl (K 0, 512, .inl (upd bb (t_size + x2).toNatClampNeg (vp_nar .byte (((x1.toUInt32 >>> ((8 * x2).toUInt32 &&& Int32.toUInt32 31)).toInt32).toInt8.toInt32)))))]) d_Se_append_24 rfl rfl hi24 rfl ?_
      refine g_iinc (k := 2) (v := x2 + 1) (L' := [(2, .int (x2 + 1)), (0, .ref a_t), (1, .int x1)]) d_Se_append_25 rfl (by first | rfl | decide) (by decide) rfl ?_
      refine g_goto (tgt := 2) d_Se_append_28 (by decide) ?_
      refine g_lsub (L' := [(0, .ref a_t), (1, .int x1), (2, .int (x2 + 1))]) [1, 2, 0] rfl ?_
      exact ih t_size (upd bb (t_size + x2).toNatClampNeg (vp_nar .byte (((x1.toUInt32 >>> ((8 * x2).toUInt32 &&& Int32.toUInt32 31)).toInt32).toInt8.toInt32))) x1 (x2 + 1) h
def f_Se_append (t_size : Int32) (bb : Nat → Int32) (four : Int32) : Option (Int32 × (Nat → Int32)) := f_Se_append_2 LF t_size bb four 0
set_option maxRecDepth 100000 in
set_option maxHeartbeats 4000000 in
theorem c_Se_append (l : Launch) (D : va_G) (K : Nat → ClassId) (a_t a_bb : Nat) (t_size : Int32) (bb : Nat → Int32) (four : Int32) (o : Int32 × (Nat → Int32)) (h : f_Se_append t_size bb four = some o) : Ct l y_Se_append b_Se_append 3 none { frames := 0, cells := 0, slots := 0, locals := 0 } D vwCl (xTy K) [.ref a_t, .int four] [(a_t, .inr (8, [.ref a_bb, .int t_size])), (a_bb, .inl (K 0, 512, .inl bb))] none [(a_t, .inr (8, [.ref a_bb, .int o.1])), (a_bb, .inl (K 0, 512, .inl o.2))] := by
  refine Ct.ofG (by decide) (Nat.le_of_ble_eq_true rfl) ?_
  refine g_L (L' := [(0, .ref a_t), (1, .int four)]) rfl ?_
  unfold f_Se_append at h
  refine g_iconst (v := 0) d_Se_append_0 (by decide) ?_
  refine g_istore_n (L' := [(2, .int 0), (0, .ref a_t), (1, .int four)]) d_Se_append_1 (by decide) rfl ?_
  refine g_lsub (L' := [(0, .ref a_t), (1, .int four), (2, .int 0)]) [1, 2, 0] rfl ?_
  exact j_Se_append_2 l D K a_t a_bb LF t_size bb four 0 o h
def f_Se_replace (bb : Nat → Int32) (k1 : Int32) (b1 : Int32) : Option (Int32 × (Nat → Int32)) := if k1 < 0 ∨ 512 ≤ k1.toNatClampNeg then none else if k1 < 0 ∨ 512 ≤ k1.toNatClampNeg then none else some ((bb k1.toNatClampNeg) &&& 255, upd bb k1.toNatClampNeg (vp_nar .byte b1.toInt8.toInt32))
set_option maxRecDepth 100000 in
set_option maxHeartbeats 4000000 in
theorem c_Se_replace (l : Launch) (D : va_G) (K : Nat → ClassId) (a_t a_bb : Nat) (t_size : Int32) (bb : Nat → Int32) (k1 : Int32) (b1 : Int32) (o : Int32 × (Nat → Int32)) (h : f_Se_replace bb k1 b1 = some o) : Ct l y_Se_replace b_Se_replace 4 (some .int) { frames := 0, cells := 0, slots := 0, locals := 0 } D vwCl (xTy K) [.ref a_t, .int k1, .int b1] [(a_t, .inr (8, [.ref a_bb, .int t_size])), (a_bb, .inl (K 0, 512, .inl bb))] (some (.int o.1)) [(a_t, .inr (8, [.ref a_bb, .int t_size])), (a_bb, .inl (K 0, 512, .inl o.2))] := by
  refine Ct.ofG (by decide) (Nat.le_of_ble_eq_true rfl) ?_
  refine g_L (L' := [(0, .ref a_t), (1, .int k1), (2, .int b1)]) rfl ?_
  unfold f_Se_replace at h
  refine g_aload_n d_Se_replace_0 rfl ?_
  refine gf_Se_9 0 rfl (v := .ref a_bb) rfl d_Se_replace_1 ?_
  refine g_iload_n d_Se_replace_4 rfl ?_
  obtain ⟨hi5, h⟩ := it_in h
  refine g_bald 1 0 d_Se_replace_5 rfl rfl hi5 ?_
  refine g_sipush (v := 255) d_Se_replace_6 (by decide) ?_
  refine g_iand d_Se_replace_9 ?_
  refine g_istore_n (L' := [(3, .int ((bb k1.toNatClampNeg) &&& 255)), (0, .ref a_t), (1, .int k1), (2, .int b1)]) d_Se_replace_10 (by decide) rfl ?_
  refine g_aload_n d_Se_replace_11 rfl ?_
  refine gf_Se_9 0 rfl (v := .ref a_bb) rfl d_Se_replace_12 ?_
  refine g_iload_n d_Se_replace_15 rfl ?_
  refine g_iload_n d_Se_replace_16 rfl ?_
  refine g_i2b d_Se_replace_17 ?_
  obtain ⟨hi18, h⟩ := it_in h
  refine g_bast 1 0 (ws' := [(a_t, .inr (8, [.ref a_bb, .int t_size])), (a_bb, .inl (K 0, 512, .inl (upd bb k1.toNatClampNeg (vp_nar .byte b1.toInt8.toInt32))))]) d_Se_replace_18 rfl rfl hi18 rfl ?_
  refine g_iload_n d_Se_replace_19 rfl ?_
  obtain rfl := Option.some.inj h
  exact g_iret rfl d_Se_replace_20
def f_En_covers (t_isFrame : Int32) (t_first : Int32) (t_range : Int32) (p1 : Int32) : Option (Int32) := if t_isFrame = 0 then (some 0) else (if (lg_cmp (p1.toInt64 &&& 4294967295) t_first.toInt64) < 0 then (some 0) else (if 0 ≤ (lg_cmp (p1.toInt64 &&& 4294967295) (t_first.toInt64 + t_range.toInt64)) then (some 0) else (some 1)))
set_option maxRecDepth 100000 in
set_option maxHeartbeats 4000000 in
theorem c_En_covers (l : Launch) (D : va_G) (K : Nat → ClassId) (a_t : Nat) (t_isFrame : Int32) (t_begins : Int32) (t_instructions : Int32) (t_ends : Int32) (t_common : Int32) (t_code : Int32) (t_data : Int32) (t_returnRegister : Int32) (t_first : Int32) (t_range : Int32) (p1 : Int32) (o : Int32) (h : f_En_covers t_isFrame t_first t_range p1 = some o) : Ct l y_En_covers b_En_covers 4 (some .boolean) { frames := 0, cells := 0, slots := 0, locals := 0 } D vwCl (xTy K) [.ref a_t, .int p1] [(a_t, .inr (0, [.int t_isFrame, .int t_begins, .int t_instructions, .int t_ends, .int t_common, .int t_code, .int t_data, .int t_returnRegister, .int t_first, .int t_range]))] (some (.int o)) [(a_t, .inr (0, [.int t_isFrame, .int t_begins, .int t_instructions, .int t_ends, .int t_common, .int t_code, .int t_data, .int t_returnRegister, .int t_first, .int t_range]))] := by
  refine Ct.ofG (by decide) (Nat.le_of_ble_eq_true rfl) ?_
  refine g_L (L' := [(0, .ref a_t), (1, .int p1)]) rfl ?_
  unfold f_En_covers at h
  refine g_iload_n d_En_covers_0 rfl ?_
  refine g_i2l d_En_covers_1 ?_
  refine g_ldc2 (v := 4294967295) (gIn_ts tb_553 rfl) d_En_covers_2 ?_
  refine g_land d_En_covers_5 ?_
  refine g_lstore_n (L' := [(2, .long (p1.toInt64 &&& 4294967295)), (0, .ref a_t), (1, .int p1)]) d_En_covers_6 (by decide) rfl ?_
  refine g_aload_n d_En_covers_7 rfl ?_
  refine gf_En_9 0 rfl (v := .int t_isFrame) rfl d_En_covers_8 ?_
  refine g_if_eq (tgt := 44) d_En_covers_11 (by decide) (fun hc => ?_) (fun hc => ?_)
  · replace h := it_t hc h
    refine g_iconst (v := 0) d_En_covers_44 (by decide) ?_
    obtain rfl := Option.some.inj h
    exact g_zret (v := 0) rfl (by decide) d_En_covers_45
  · replace h := it_f hc h
    refine g_lload_n d_En_covers_14 rfl ?_
    refine g_aload_n d_En_covers_15 rfl ?_
    refine gf_En_15 0 rfl (v := .int t_first) rfl d_En_covers_16 ?_
    refine g_i2l d_En_covers_19 ?_
    refine g_lcmp d_En_covers_20 ?_
    refine g_if_lt (tgt := 44) d_En_covers_21 (by decide) (fun hc => ?_) (fun hc => ?_)
    · replace h := it_t hc h
      refine g_iconst (v := 0) d_En_covers_44 (by decide) ?_
      obtain rfl := Option.some.inj h
      exact g_zret (v := 0) rfl (by decide) d_En_covers_45
    · replace h := it_f hc h
      refine g_lload_n d_En_covers_24 rfl ?_
      refine g_aload_n d_En_covers_25 rfl ?_
      refine gf_En_15 0 rfl (v := .int t_first) rfl d_En_covers_26 ?_
      refine g_i2l d_En_covers_29 ?_
      refine g_aload_n d_En_covers_30 rfl ?_
      refine gf_En_19 0 rfl (v := .int t_range) rfl d_En_covers_31 ?_
      refine g_i2l d_En_covers_34 ?_
      refine g_ladd d_En_covers_35 ?_
      refine g_lcmp d_En_covers_36 ?_
      refine g_if_ge (tgt := 44) d_En_covers_37 (by decide) (fun hc => ?_) (fun hc => ?_)
      · replace h := it_t hc h
        refine g_iconst (v := 0) d_En_covers_44 (by decide) ?_
        obtain rfl := Option.some.inj h
        exact g_zret (v := 0) rfl (by decide) d_En_covers_45
      · replace h := it_f hc h
        refine g_iconst (v := 1) d_En_covers_40 (by decide) ?_
        refine g_goto (tgt := 45) d_En_covers_41 (by decide) ?_
        obtain rfl := Option.some.inj h
        exact g_zret (v := 1) rfl (by decide) d_En_covers_45
def f_Me_has (d1 : Int32) : Option (Int32) := if d1 < 0 then (some 0) else (if 1024 ≤ d1 then (some 0) else (if (4 : Int32) = 0 then none else if (d1 - d1 / 4 * 4) = 0 then (some 1) else (some 0)))
set_option maxRecDepth 100000 in
set_option maxHeartbeats 4000000 in
theorem c_Me_has (l : Launch) (D : va_G) (K : Nat → ClassId) (a_t : Nat) (d1 : Int32) (o : Int32) (h : f_Me_has d1 = some o) : Ct l y_Me_has b_Me_has 2 (some .boolean) { frames := 0, cells := 0, slots := 0, locals := 0 } D vwCl (xTy K) [.ref a_t, .int d1] [] (some (.int o)) [] := by
  refine Ct.ofG (by decide) (Nat.le_of_ble_eq_true rfl) ?_
  refine g_L (L' := [(0, .ref a_t), (1, .int d1)]) rfl ?_
  unfold f_Me_has at h
  refine g_iload_n d_Me_has_0 rfl ?_
  refine g_if_lt (tgt := 21) d_Me_has_1 (by decide) (fun hc => ?_) (fun hc => ?_)
  · replace h := it_t hc h
    refine g_iconst (v := 0) d_Me_has_21 (by decide) ?_
    obtain rfl := Option.some.inj h
    exact g_zret (v := 0) rfl (by decide) d_Me_has_22
  · replace h := it_f hc h
    refine g_iload_n d_Me_has_4 rfl ?_
    refine g_sipush (v := 1024) d_Me_has_5 (by decide) ?_
    refine g_icmp_ge (tgt := 21) d_Me_has_8 (by decide) (fun hc => ?_) (fun hc => ?_)
    · replace h := it_t hc h
      refine g_iconst (v := 0) d_Me_has_21 (by decide) ?_
      obtain rfl := Option.some.inj h
      exact g_zret (v := 0) rfl (by decide) d_Me_has_22
    · replace h := it_f hc h
      refine g_iload_n d_Me_has_11 rfl ?_
      refine g_iconst (v := 4) d_Me_has_12 (by decide) ?_
      obtain ⟨hz13, h⟩ := it_n h
      refine g_irem d_Me_has_13 hz13 ?_
      refine g_if_ne (tgt := 21) d_Me_has_14 (by decide) (fun hc => ?_) (fun hc => ?_)
      · replace h := it_f hc h
        refine g_iconst (v := 0) d_Me_has_21 (by decide) ?_
        obtain rfl := Option.some.inj h
        exact g_zret (v := 0) rfl (by decide) d_Me_has_22
      · replace h := it_t hc h
        refine g_iconst (v := 1) d_Me_has_17 (by decide) ?_
        refine g_goto (tgt := 22) d_Me_has_18 (by decide) ?_
        obtain rfl := Option.some.inj h
        exact g_zret (v := 1) rfl (by decide) d_Me_has_22
def f_Me_load (mw : Nat → Int32) (d1 : Int32) : Option (Int32) := if (4 : Int32) = 0 then none else if (d1 / 4) < 0 ∨ 256 ≤ (d1 / 4).toNatClampNeg then none else some (mw (d1 / 4).toNatClampNeg)
set_option maxRecDepth 100000 in
set_option maxHeartbeats 4000000 in
theorem c_Me_load (l : Launch) (D : va_G) (K : Nat → ClassId) (a_t a_mw : Nat) (mw : Nat → Int32) (d1 : Int32) (o : Int32) (h : f_Me_load mw d1 = some o) : Ct l y_Me_load b_Me_load 2 (some .int) { frames := 0, cells := 0, slots := 0, locals := 0 } D vwCl (xTy K) [.ref a_t, .int d1] [(a_t, .inr (4, [.ref a_mw])), (a_mw, .inl (K 1, 256, .inl mw))] (some (.int o)) [(a_t, .inr (4, [.ref a_mw])), (a_mw, .inl (K 1, 256, .inl mw))] := by
  refine Ct.ofG (by decide) (Nat.le_of_ble_eq_true rfl) ?_
  refine g_L (L' := [(0, .ref a_t), (1, .int d1)]) rfl ?_
  unfold f_Me_load at h
  refine g_aload_n d_Me_load_0 rfl ?_
  refine gf_Me_9 0 rfl (v := .ref a_mw) rfl d_Me_load_1 ?_
  refine g_iload_n d_Me_load_4 rfl ?_
  refine g_iconst (v := 4) d_Me_load_5 (by decide) ?_
  obtain ⟨hz6, h⟩ := it_n h
  refine g_idiv d_Me_load_6 hz6 ?_
  obtain ⟨hi7, h⟩ := it_in h
  refine g_iald 1 1 d_Me_load_7 rfl rfl hi7 ?_
  obtain rfl := Option.some.inj h
  exact g_iret rfl d_Me_load_8
def f_Me_store (mw : Nat → Int32) (d1 : Int32) (v1 : Int32) : Option ((Nat → Int32)) := if (4 : Int32) = 0 then none else if (d1 / 4) < 0 ∨ 256 ≤ (d1 / 4).toNatClampNeg then none else some (upd mw (d1 / 4).toNatClampNeg v1)
set_option maxRecDepth 100000 in
set_option maxHeartbeats 4000000 in
theorem c_Me_store (l : Launch) (D : va_G) (K : Nat → ClassId) (a_t a_mw : Nat) (mw : Nat → Int32) (d1 : Int32) (v1 : Int32) (o : (Nat → Int32)) (h : f_Me_store mw d1 v1 = some o) : Ct l y_Me_store b_Me_store 3 none { frames := 0, cells := 0, slots := 0, locals := 0 } D vwCl (xTy K) [.ref a_t, .int d1, .int v1] [(a_t, .inr (4, [.ref a_mw])), (a_mw, .inl (K 1, 256, .inl mw))] none [(a_t, .inr (4, [.ref a_mw])), (a_mw, .inl (K 1, 256, .inl o))] := by
  refine Ct.ofG (by decide) (Nat.le_of_ble_eq_true rfl) ?_
  refine g_L (L' := [(0, .ref a_t), (1, .int d1), (2, .int v1)]) rfl ?_
  unfold f_Me_store at h
  refine g_aload_n d_Me_store_0 rfl ?_
  refine gf_Me_9 0 rfl (v := .ref a_mw) rfl d_Me_store_1 ?_
  refine g_iload_n d_Me_store_4 rfl ?_
  refine g_iconst (v := 4) d_Me_store_5 (by decide) ?_
  obtain ⟨hz6, h⟩ := it_n h
  refine g_idiv d_Me_store_6 hz6 ?_
  refine g_iload_n d_Me_store_7 rfl ?_
  obtain ⟨hi8, h⟩ := it_in h
  refine g_iast 1 1 (ws' := [(a_t, .inr (4, [.ref a_mw])), (a_mw, .inl (K 1, 256, .inl (upd mw (d1 / 4).toNatClampNeg v1)))]) d_Me_store_8 rfl rfl hi8 rfl ?_
  obtain rfl := Option.some.inj h
  exact g_vret rfl d_Me_store_9
def f_Fr_place (t_pc : Int32) (t_unwound : Int32) : Option (Int32) := if t_unwound = 0 then (some t_pc) else (some (t_pc - 1))
set_option maxRecDepth 100000 in
set_option maxHeartbeats 4000000 in
theorem c_Fr_place (l : Launch) (D : va_G) (K : Nat → ClassId) (a_t a_fv : Nat) (t_known : Int32) (t_pc : Int32) (t_unwound : Int32) (o : Int32) (h : f_Fr_place t_pc t_unwound = some o) : Ct l y_Fr_place b_Fr_place 1 (some .int) { frames := 0, cells := 0, slots := 0, locals := 0 } D vwCl (xTy K) [.ref a_t] [(a_t, .inr (1, [.ref a_fv, .int t_known, .int t_pc, .int t_unwound]))] (some (.int o)) [(a_t, .inr (1, [.ref a_fv, .int t_known, .int t_pc, .int t_unwound]))] := by
  refine Ct.ofG (by decide) (Nat.le_of_ble_eq_true rfl) ?_
  refine g_L (L' := [(0, .ref a_t)]) rfl ?_
  unfold f_Fr_place at h
  refine g_aload_n d_Fr_place_0 rfl ?_
  refine gf_Fr_19 0 rfl (v := .int t_unwound) rfl d_Fr_place_1 ?_
  refine g_if_ne (tgt := 14) d_Fr_place_4 (by decide) (fun hc => ?_) (fun hc => ?_)
  · replace h := it_f hc h
    refine g_aload_n d_Fr_place_14 rfl ?_
    refine gf_Fr_22 0 rfl (v := .int t_pc) rfl d_Fr_place_15 ?_
    refine g_iconst (v := 1) d_Fr_place_18 (by decide) ?_
    refine g_isub d_Fr_place_19 ?_
    obtain rfl := Option.some.inj h
    exact g_iret rfl d_Fr_place_20
  · replace h := it_t hc h
    refine g_aload_n d_Fr_place_7 rfl ?_
    refine gf_Fr_22 0 rfl (v := .int t_pc) rfl d_Fr_place_8 ?_
    refine g_goto (tgt := 20) d_Fr_place_11 (by decide) ?_
    obtain rfl := Option.some.inj h
    exact g_iret rfl d_Fr_place_20
def f_Fr_knows (t_known : Int32) (r1 : Int32) : Option (Int32) := if (t_known &&& (1 <<< (r1 &&& 31))) = 0 then (some 0) else (some 1)
set_option maxRecDepth 100000 in
set_option maxHeartbeats 4000000 in
theorem c_Fr_knows (l : Launch) (D : va_G) (K : Nat → ClassId) (a_t a_fv : Nat) (t_known : Int32) (t_pc : Int32) (t_unwound : Int32) (r1 : Int32) (o : Int32) (h : f_Fr_knows t_known r1 = some o) : Ct l y_Fr_knows b_Fr_knows 2 (some .boolean) { frames := 0, cells := 0, slots := 0, locals := 0 } D vwCl (xTy K) [.ref a_t, .int r1] [(a_t, .inr (1, [.ref a_fv, .int t_known, .int t_pc, .int t_unwound]))] (some (.int o)) [(a_t, .inr (1, [.ref a_fv, .int t_known, .int t_pc, .int t_unwound]))] := by
  refine Ct.ofG (by decide) (Nat.le_of_ble_eq_true rfl) ?_
  refine g_L (L' := [(0, .ref a_t), (1, .int r1)]) rfl ?_
  unfold f_Fr_knows at h
  refine g_aload_n d_Fr_knows_0 rfl ?_
  refine gf_Fr_15 0 rfl (v := .int t_known) rfl d_Fr_knows_1 ?_
  refine g_iconst (v := 1) d_Fr_knows_4 (by decide) ?_
  refine g_iload_n d_Fr_knows_5 rfl ?_
  refine g_ishl d_Fr_knows_6 ?_
  refine g_iand d_Fr_knows_7 ?_
  refine g_if_eq (tgt := 15) d_Fr_knows_8 (by decide) (fun hc => ?_) (fun hc => ?_)
  · replace h := it_t hc h
    refine g_iconst (v := 0) d_Fr_knows_15 (by decide) ?_
    obtain rfl := Option.some.inj h
    exact g_zret (v := 0) rfl (by decide) d_Fr_knows_16
  · replace h := it_f hc h
    refine g_iconst (v := 1) d_Fr_knows_11 (by decide) ?_
    refine g_goto (tgt := 16) d_Fr_knows_12 (by decide) ?_
    obtain rfl := Option.some.inj h
    exact g_zret (v := 1) rfl (by decide) d_Fr_knows_16
def f_Fr_learn (t_known : Int32) (fv : Nat → Int32) (r1 : Int32) (v1 : Int32) : Option (Int32 × (Nat → Int32)) := if r1 < 0 ∨ 8 ≤ r1.toNatClampNeg then none else some (t_known ||| (1 <<< (r1 &&& 31)), upd fv r1.toNatClampNeg v1)
set_option maxRecDepth 100000 in
set_option maxHeartbeats 4000000 in
theorem c_Fr_learn (l : Launch) (D : va_G) (K : Nat → ClassId) (a_t a_fv : Nat) (t_known : Int32) (t_pc : Int32) (t_unwound : Int32) (fv : Nat → Int32) (r1 : Int32) (v1 : Int32) (o : Int32 × (Nat → Int32)) (h : f_Fr_learn t_known fv r1 v1 = some o) : Ct l y_Fr_learn b_Fr_learn 3 none { frames := 0, cells := 0, slots := 0, locals := 0 } D vwCl (xTy K) [.ref a_t, .int r1, .int v1] [(a_t, .inr (1, [.ref a_fv, .int t_known, .int t_pc, .int t_unwound])), (a_fv, .inl (K 1, 8, .inl fv))] none [(a_t, .inr (1, [.ref a_fv, .int o.1, .int t_pc, .int t_unwound])), (a_fv, .inl (K 1, 8, .inl o.2))] := by
  refine Ct.ofG (by decide) (Nat.le_of_ble_eq_true rfl) ?_
  refine g_L (L' := [(0, .ref a_t), (1, .int r1), (2, .int v1)]) rfl ?_
  unfold f_Fr_learn at h
  refine g_aload_n d_Fr_learn_0 rfl ?_
  refine gf_Fr_9 0 rfl (v := .ref a_fv) rfl d_Fr_learn_1 ?_
  refine g_iload_n d_Fr_learn_4 rfl ?_
  refine g_iload_n d_Fr_learn_5 rfl ?_
  obtain ⟨hi6, h⟩ := it_in h
  refine g_iast 1 1 (ws' := [(a_t, .inr (1, [.ref a_fv, .int t_known, .int t_pc, .int t_unwound])), (a_fv, .inl (K 1, 8, .inl (upd fv r1.toNatClampNeg v1)))]) d_Fr_learn_6 rfl rfl hi6 rfl ?_
  refine g_aload_n d_Fr_learn_7 rfl ?_
  refine g_dup d_Fr_learn_8 rfl ?_
  refine gf_Fr_15 0 rfl (v := .int t_known) rfl d_Fr_learn_9 ?_
  refine g_iconst (v := 1) d_Fr_learn_12 (by decide) ?_
  refine g_iload_n d_Fr_learn_13 rfl ?_
  refine g_ishl d_Fr_learn_14 ?_
  refine g_ior d_Fr_learn_15 ?_
  refine pf_Fr_15 0 rfl (v := .int (t_known ||| (1 <<< (r1 &&& 31)))) rfl rfl (Nat.le_of_ble_eq_true rfl) (ws' := [(a_t, .inr (1, [.ref a_fv, .int (t_known ||| (1 <<< (r1 &&& 31))), .int t_pc, .int t_unwound])), (a_fv, .inl (K 1, 8, .inl (upd fv r1.toNatClampNeg v1)))]) rfl d_Fr_learn_16 ?_
  obtain rfl := Option.some.inj h
  exact g_vret rfl d_Fr_learn_19
def f_Fr_forget (t_known : Int32) (fv : Nat → Int32) (r1 : Int32) : Option (Int32 × (Nat → Int32)) := if r1 < 0 ∨ 8 ≤ r1.toNatClampNeg then none else some (t_known &&& ((1 <<< (r1 &&& 31)) ^^^ (-1)), upd fv r1.toNatClampNeg 0)
set_option maxRecDepth 100000 in
set_option maxHeartbeats 4000000 in
theorem c_Fr_forget (l : Launch) (D : va_G) (K : Nat → ClassId) (a_t a_fv : Nat) (t_known : Int32) (t_pc : Int32) (t_unwound : Int32) (fv : Nat → Int32) (r1 : Int32) (o : Int32 × (Nat → Int32)) (h : f_Fr_forget t_known fv r1 = some o) : Ct l y_Fr_forget b_Fr_forget 2 none { frames := 0, cells := 0, slots := 0, locals := 0 } D vwCl (xTy K) [.ref a_t, .int r1] [(a_t, .inr (1, [.ref a_fv, .int t_known, .int t_pc, .int t_unwound])), (a_fv, .inl (K 1, 8, .inl fv))] none [(a_t, .inr (1, [.ref a_fv, .int o.1, .int t_pc, .int t_unwound])), (a_fv, .inl (K 1, 8, .inl o.2))] := by
  refine Ct.ofG (by decide) (Nat.le_of_ble_eq_true rfl) ?_
  refine g_L (L' := [(0, .ref a_t), (1, .int r1)]) rfl ?_
  unfold f_Fr_forget at h
  refine g_aload_n d_Fr_forget_0 rfl ?_
  refine gf_Fr_9 0 rfl (v := .ref a_fv) rfl d_Fr_forget_1 ?_
  refine g_iload_n d_Fr_forget_4 rfl ?_
  refine g_iconst (v := 0) d_Fr_forget_5 (by decide) ?_
  obtain ⟨hi6, h⟩ := it_in h
  refine g_iast 1 1 (ws' := [(a_t, .inr (1, [.ref a_fv, .int t_known, .int t_pc, .int t_unwound])), (a_fv, .inl (K 1, 8, .inl (upd fv r1.toNatClampNeg 0)))]) d_Fr_forget_6 rfl rfl hi6 rfl ?_
  refine g_aload_n d_Fr_forget_7 rfl ?_
  refine g_dup d_Fr_forget_8 rfl ?_
  refine gf_Fr_15 0 rfl (v := .int t_known) rfl d_Fr_forget_9 ?_
  refine g_iconst (v := 1) d_Fr_forget_12 (by decide) ?_
  refine g_iload_n d_Fr_forget_13 rfl ?_
  refine g_ishl d_Fr_forget_14 ?_
  refine g_iconst (v := (-1)) d_Fr_forget_15 (by decide) ?_
  refine g_ixor d_Fr_forget_16 ?_
  refine g_iand d_Fr_forget_17 ?_
  refine pf_Fr_15 0 rfl (v := .int (t_known &&& ((1 <<< (r1 &&& 31)) ^^^ (-1)))) rfl rfl (Nat.le_of_ble_eq_true rfl) (ws' := [(a_t, .inr (1, [.ref a_fv, .int (t_known &&& ((1 <<< (r1 &&& 31)) ^^^ (-1))), .int t_pc, .int t_unwound])), (a_fv, .inl (K 1, 8, .inl (upd fv r1.toNatClampNeg 0)))]) rfl d_Fr_forget_18 ?_
  obtain rfl := Option.some.inj h
  exact g_vret rfl d_Fr_forget_21
def f_Fr_takeRegisters (t_known : Int32) (fv : Nat → Int32) (u_known : Int32) (uv : Nat → Int32) : Option (Int32 × (Nat → Int32)) := some (u_known, va_cpy uv fv 0 0 8)
set_option maxRecDepth 100000 in
set_option maxHeartbeats 4000000 in
theorem c_Fr_takeRegisters (l : Launch) (D : va_G) (K : Nat → ClassId) (a_t a_fv a_u a_uv : Nat) (t_known : Int32) (t_pc : Int32) (t_unwound : Int32) (fv : Nat → Int32) (u_known : Int32) (u_pc : Int32) (u_unwound : Int32) (uv : Nat → Int32) (o : Int32 × (Nat → Int32)) (h : f_Fr_takeRegisters t_known fv u_known uv = some o) : Ct l y_Fr_takeRegisters b_Fr_takeRegisters 2 none { frames := 1, cells := 0, slots := 0, locals := 100 } D vwCl (xTy K) [.ref a_t, .ref a_u] [(a_t, .inr (1, [.ref a_fv, .int t_known, .int t_pc, .int t_unwound])), (a_fv, .inl (K 1, 8, .inl fv)), (a_u, .inr (1, [.ref a_uv, .int u_known, .int u_pc, .int u_unwound])), (a_uv, .inl (K 1, 8, .inl uv))] none [(a_t, .inr (1, [.ref a_fv, .int o.1, .int t_pc, .int t_unwound])), (a_fv, .inl (K 1, 8, .inl o.2)), (a_u, .inr (1, [.ref a_uv, .int u_known, .int u_pc, .int u_unwound])), (a_uv, .inl (K 1, 8, .inl uv))] := by
  refine Ct.ofG (by decide) (Nat.le_of_ble_eq_true rfl) ?_
  refine g_L (L' := [(0, .ref a_t), (1, .ref a_u)]) rfl ?_
  unfold f_Fr_takeRegisters at h
  refine g_aload_n d_Fr_takeRegisters_0 rfl ?_
  refine gf_Fr_9 2 rfl (v := .ref a_uv) rfl d_Fr_takeRegisters_1 ?_
  refine g_iconst (v := 0) d_Fr_takeRegisters_4 (by decide) ?_
  refine g_aload_n d_Fr_takeRegisters_5 rfl ?_
  refine gf_Fr_9 0 rfl (v := .ref a_fv) rfl d_Fr_takeRegisters_6 ?_
  refine g_iconst (v := 0) d_Fr_takeRegisters_9 (by decide) ?_
  refine g_bipush (v := 8) d_Fr_takeRegisters_10 (by decide) ?_
  refine g_copyi 3 1 1 (gIn_ts tb_823 rfl) (gIn_ts tb_616 rfl) (gIn_ts tb_615 rfl) (gIn_ts tb_22 rfl) rfl rfl rfl (by decide) (by decide) (by decide) (by decide) (by decide) (by decide) (by decide) (ws' := [(a_t, .inr (1, [.ref a_fv, .int t_known, .int t_pc, .int t_unwound])), (a_fv, .inl (K 1, 8, .inl (va_cpy uv fv 0 0 8))), (a_u, .inr (1, [.ref a_uv, .int u_known, .int u_pc, .int u_unwound])), (a_uv, .inl (K 1, 8, .inl uv))]) rfl d_Fr_takeRegisters_12 ?_
  refine g_aload_n d_Fr_takeRegisters_15 rfl ?_
  refine g_aload_n d_Fr_takeRegisters_16 rfl ?_
  refine gf_Fr_15 2 rfl (v := .int u_known) rfl d_Fr_takeRegisters_17 ?_
  refine pf_Fr_15 0 rfl (v := .int u_known) rfl rfl (Nat.le_of_ble_eq_true rfl) (ws' := [(a_t, .inr (1, [.ref a_fv, .int u_known, .int t_pc, .int t_unwound])), (a_fv, .inl (K 1, 8, .inl (va_cpy uv fv 0 0 8))), (a_u, .inr (1, [.ref a_uv, .int u_known, .int u_pc, .int u_unwound])), (a_uv, .inl (K 1, 8, .inl uv))]) rfl d_Fr_takeRegisters_20 ?_
  obtain rfl := Option.some.inj h
  exact g_vret rfl d_Fr_takeRegisters_23
