def f_Rd_open (t_at : Int32) (t_limit : Int32) (t_broken : Int32) (b1 : Int32) (b2 : Int32) : Option (Int32 × Int32 × Int32) := some (b1, b2, 0)
set_option maxRecDepth 100000 in
set_option maxHeartbeats 4000000 in
theorem c_Rd_open (l : Launch) (D : va_G) (K : Nat → ClassId) (a_t a_bb : Nat) (t_at : Int32) (t_limit : Int32) (t_broken : Int32) (b1 : Int32) (b2 : Int32) (o : Int32 × Int32 × Int32) (h : f_Rd_open t_at t_limit t_broken b1 b2 = some o) : Ct l y_Rd_open b_Rd_open 3 none { frames := 0, cells := 0, slots := 0, locals := 0 } D vwCl (xTy K) [.ref a_t, .int b1, .int b2] [(a_t, .inr (5, [.ref a_bb, .int t_at, .int t_limit, .int t_broken]))] none [(a_t, .inr (5, [.ref a_bb, .int o.1, .int o.2.1, .int o.2.2]))] := by
  refine Ct.ofG (by decide) (Nat.le_of_ble_eq_true rfl) ?_
  refine g_L (L' := [(0, .ref a_t), (1, .int b1), (2, .int b2)]) rfl ?_
  unfold f_Rd_open at h
  refine g_aload_n d_Rd_open_0 rfl ?_
  refine g_iload_n d_Rd_open_1 rfl ?_
  refine pf_Rd_13 0 rfl (v := .int b1) rfl rfl (Nat.le_of_ble_eq_true rfl) (ws' := [(a_t, .inr (5, [.ref a_bb, .int b1, .int t_limit, .int t_broken]))]) rfl d_Rd_open_2 ?_
  refine g_aload_n d_Rd_open_5 rfl ?_
  refine g_iload_n d_Rd_open_6 rfl ?_
  refine pf_Rd_17 0 rfl (v := .int b2) rfl rfl (Nat.le_of_ble_eq_true rfl) (ws' := [(a_t, .inr (5, [.ref a_bb, .int b1, .int b2, .int t_broken]))]) rfl d_Rd_open_7 ?_
  refine g_aload_n d_Rd_open_10 rfl ?_
  refine g_iconst (v := 0) d_Rd_open_11 (by decide) ?_
  refine pf_Rd_20 0 rfl (v := .int 0) (by decide) (by decide) (Nat.le_of_ble_eq_true rfl) (ws' := [(a_t, .inr (5, [.ref a_bb, .int b1, .int b2, .int 0]))]) rfl d_Rd_open_12 ?_
  obtain rfl := Option.some.inj h
  exact g_vret rfl d_Rd_open_15
def f_Rd_unsigned_31 : Nat → Int32 → Int32 → Int32 → (Nat → Int32) → Int32 → Int32 → Int32 → Option (Int32 × Int32 × Int32)
  | 0, _, _, _, _, _, _, _ => none
  | n + 1, t_at, t_limit, t_broken, bb, x1, x2, x3 => if x1 ≤ x3 then (some (x2, t_at + x1, t_broken)) else (if (t_at + x3) < 0 ∨ 512 ≤ (t_at + x3).toNatClampNeg then none else f_Rd_unsigned_31 n t_at t_limit t_broken bb x1 (x2 ||| (((bb (t_at + x3).toNatClampNeg) &&& 255) <<< ((8 * x3) &&& 31))) (x3 + 1))
set_option maxRecDepth 100000 in
set_option maxHeartbeats 4000000 in
theorem j_Rd_unsigned_31 (l : Launch) (D : va_G) (K : Nat → ClassId) (a_t a_bb : Nat) {av : List Value} {w0 : va_W} (n : Nat) (t_at : Int32) (t_limit : Int32) (t_broken : Int32) (bb : Nat → Int32) (x1 : Int32) (x2 : Int32) (x3 : Int32) (o : Int32 × Int32 × Int32) (h : f_Rd_unsigned_31 n t_at t_limit t_broken bb x1 x2 x3 = some o) : Gm l y_Rd_unsigned b_Rd_unsigned 4 (some .int) { frames := 0, cells := 0, slots := 0, locals := 0 } D vwCl (xTy K) av w0 (CtF D vwCl av w0 (some (.int o.1)) [(a_t, .inr (5, [.ref a_bb, .int o.2.1, .int t_limit, .int o.2.2])), (a_bb, .inl (K 0, 512, .inl bb))]) 0 0 [(a_t, .inr (5, [.ref a_bb, .int t_at, .int t_limit, .int t_broken])), (a_bb, .inl (K 0, 512, .inl bb))] [(0, .ref a_t), (1, .int x1), (2, .int x2), (3, .int x3)] 31 [] := by
  induction n generalizing t_at t_limit t_broken bb x1 x2 x3 with
  | zero => exact absurd h (by rw [f_Rd_unsigned_31]; exact fun z => nomatch z)
  | succ n ih =>
    rw [f_Rd_unsigned_31] at h
    refine g_iload_n d_Rd_unsigned_31 rfl ?_
    refine g_iload_n d_Rd_unsigned_32 rfl ?_
    refine g_icmp_ge (tgt := 65) d_Rd_unsigned_33 (by decide) (fun hc => ?_) (fun hc => ?_)
    · replace h := it_t hc h
      refine g_aload_n d_Rd_unsigned_65 rfl ?_
      refine g_dup d_Rd_unsigned_66 rfl ?_
      refine gf_Rd_13 0 rfl (v := .int t_at) rfl d_Rd_unsigned_67 ?_
      refine g_iload_n d_Rd_unsigned_70 rfl ?_
      refine g_iadd d_Rd_unsigned_71 ?_
      refine pf_Rd_13 0 rfl (v := .int (t_at + x1)) rfl rfl (Nat.le_of_ble_eq_true rfl) (ws' := [(a_t, .inr (5, [.ref a_bb, .int (t_at + x1), .int t_limit, .int t_broken])), (a_bb, .inl (K 0, 512, .inl bb))]) rfl d_Rd_unsigned_72 ?_
      refine g_iload_n d_Rd_unsigned_75 rfl ?_
      obtain rfl := Option.some.inj h
      exact g_iret rfl d_Rd_unsigned_76
    · replace h := it_f hc h
      refine g_iload_n d_Rd_unsigned_36 rfl ?_
      refine g_aload_n d_Rd_unsigned_37 rfl ?_
      refine gf_Rd_7 0 rfl (v := .ref a_bb) rfl d_Rd_unsigned_38 ?_
      refine g_aload_n d_Rd_unsigned_41 rfl ?_
      refine gf_Rd_13 0 rfl (v := .int t_at) rfl d_Rd_unsigned_42 ?_
      refine g_iload_n d_Rd_unsigned_45 rfl ?_
      refine g_iadd d_Rd_unsigned_46 ?_
      obtain ⟨hi47, h⟩ := it_in h
      refine g_bald 1 0 d_Rd_unsigned_47 rfl rfl hi47 ?_
      refine g_sipush (v := 255) d_Rd_unsigned_48 (by decide) ?_
      refine g_iand d_Rd_unsigned_51 ?_
      refine g_bipush (v := 8) d_Rd_unsigned_52 (by decide) ?_
      refine g_iload_n d_Rd_unsigned_54 rfl ?_
      refine g_imul d_Rd_unsigned_55 ?_
      refine g_ishl d_Rd_unsigned_56 ?_
      refine g_ior d_Rd_unsigned_57 ?_
      refine g_istore_n (L' := [(2, .int (x2 ||| (((bb (t_at + x3).toNatClampNeg) &&& 255) <<< ((8 * x3) &&& 31)))), (0, .ref a_t), (1, .int x1), (3, .int x3)]) d_Rd_unsigned_58 (by decide) rfl ?_
      refine g_iinc (k := 3) (v := x3 + 1) (L' := [(3, .int (x3 + 1)), (2, .int (x2 ||| (((bb (t_at + x3).toNatClampNeg) &&& 255) <<< ((8 * x3) &&& 31)))), (0, .ref a_t), (1, .int x1)]) d_Rd_unsigned_59 rfl (by first | rfl | decide) (by decide) rfl ?_
      refine g_goto (tgt := 31) d_Rd_unsigned_62 (by decide) ?_
      refine g_lsub (L' := [(0, .ref a_t), (1, .int x1), (2, .int (x2 ||| (((bb (t_at + x3).toNatClampNeg) &&& 255) <<< ((8 * x3) &&& 31)))), (3, .int (x3 + 1))]) [2, 3, 1, 0] rfl ?_
      exact ih t_at t_limit t_broken bb x1 (x2 ||| (((bb (t_at + x3).toNatClampNeg) &&& 255) <<< ((8 * x3) &&& 31))) (x3 + 1) h
def f_Rd_unsigned (t_at : Int32) (t_limit : Int32) (t_broken : Int32) (bb : Nat → Int32) (c1 : Int32) : Option (Int32 × Int32 × Int32) := if t_broken = 0 then (if c1 ≤ (t_limit - t_at) then (f_Rd_unsigned_31 LF t_at t_limit t_broken bb c1 0 0) else (some (0, t_at, 1))) else (some (0, t_at, 1))
set_option maxRecDepth 100000 in
set_option maxHeartbeats 4000000 in
theorem c_Rd_unsigned (l : Launch) (D : va_G) (K : Nat → ClassId) (a_t a_bb : Nat) (t_at : Int32) (t_limit : Int32) (t_broken : Int32) (bb : Nat → Int32) (c1 : Int32) (o : Int32 × Int32 × Int32) (h : f_Rd_unsigned t_at t_limit t_broken bb c1 = some o) : Ct l y_Rd_unsigned b_Rd_unsigned 4 (some .int) { frames := 0, cells := 0, slots := 0, locals := 0 } D vwCl (xTy K) [.ref a_t, .int c1] [(a_t, .inr (5, [.ref a_bb, .int t_at, .int t_limit, .int t_broken])), (a_bb, .inl (K 0, 512, .inl bb))] (some (.int o.1)) [(a_t, .inr (5, [.ref a_bb, .int o.2.1, .int t_limit, .int o.2.2])), (a_bb, .inl (K 0, 512, .inl bb))] := by
  refine Ct.ofG (by decide) (Nat.le_of_ble_eq_true rfl) ?_
  refine g_L (L' := [(0, .ref a_t), (1, .int c1)]) rfl ?_
  unfold f_Rd_unsigned at h
  refine g_aload_n d_Rd_unsigned_0 rfl ?_
  refine gf_Rd_20 0 rfl (v := .int t_broken) rfl d_Rd_unsigned_1 ?_
  refine g_if_ne (tgt := 20) d_Rd_unsigned_4 (by decide) (fun hc => ?_) (fun hc => ?_)
  · replace h := it_f hc h
    refine g_aload_n d_Rd_unsigned_20 rfl ?_
    refine g_iconst (v := 1) d_Rd_unsigned_21 (by decide) ?_
    refine pf_Rd_20 0 rfl (v := .int 1) (by decide) (by decide) (Nat.le_of_ble_eq_true rfl) (ws' := [(a_t, .inr (5, [.ref a_bb, .int t_at, .int t_limit, .int 1])), (a_bb, .inl (K 0, 512, .inl bb))]) rfl d_Rd_unsigned_22 ?_
    refine g_iconst (v := 0) d_Rd_unsigned_25 (by decide) ?_
    obtain rfl := Option.some.inj h
    exact g_iret rfl d_Rd_unsigned_26
  · replace h := it_t hc h
    refine g_iload_n d_Rd_unsigned_7 rfl ?_
    refine g_aload_n d_Rd_unsigned_8 rfl ?_
    refine gf_Rd_17 0 rfl (v := .int t_limit) rfl d_Rd_unsigned_9 ?_
    refine g_aload_n d_Rd_unsigned_12 rfl ?_
    refine gf_Rd_13 0 rfl (v := .int t_at) rfl d_Rd_unsigned_13 ?_
    refine g_isub d_Rd_unsigned_16 ?_
    refine g_icmp_le (tgt := 27) d_Rd_unsigned_17 (by decide) (fun hc => ?_) (fun hc => ?_)
    · replace h := it_t hc h
      refine g_iconst (v := 0) d_Rd_unsigned_27 (by decide) ?_
      refine g_istore_n (L' := [(2, .int 0), (0, .ref a_t), (1, .int c1)]) d_Rd_unsigned_28 (by decide) rfl ?_
      refine g_iconst (v := 0) d_Rd_unsigned_29 (by decide) ?_
      refine g_istore_n (L' := [(3, .int 0), (2, .int 0), (0, .ref a_t), (1, .int c1)]) d_Rd_unsigned_30 (by decide) rfl ?_
      refine g_lsub (L' := [(0, .ref a_t), (1, .int c1), (2, .int 0), (3, .int 0)]) [2, 3, 1, 0] rfl ?_
      exact j_Rd_unsigned_31 l D K a_t a_bb LF t_at t_limit t_broken bb c1 0 0 o h
    · replace h := it_f hc h
      refine g_aload_n d_Rd_unsigned_20 rfl ?_
      refine g_iconst (v := 1) d_Rd_unsigned_21 (by decide) ?_
      refine pf_Rd_20 0 rfl (v := .int 1) (by decide) (by decide) (Nat.le_of_ble_eq_true rfl) (ws' := [(a_t, .inr (5, [.ref a_bb, .int t_at, .int t_limit, .int 1])), (a_bb, .inl (K 0, 512, .inl bb))]) rfl d_Rd_unsigned_22 ?_
      refine g_iconst (v := 0) d_Rd_unsigned_25 (by decide) ?_
      obtain rfl := Option.some.inj h
      exact g_iret rfl d_Rd_unsigned_26
def f_Rd_signed (t_at : Int32) (t_limit : Int32) (t_broken : Int32) (bb : Nat → Int32) (c1 : Int32) : Option (Int32 × Int32 × Int32) := ((f_Rd_unsigned t_at t_limit t_broken bb c1).bind fun q10 => some ((q10.1 <<< ((32 - (8 * c1)) &&& 31)) >>> ((32 - (8 * c1)) &&& 31), q10.2.1, q10.2.2))
set_option maxRecDepth 100000 in
set_option maxHeartbeats 4000000 in
theorem c_Rd_signed (l : Launch) (D : va_G) (K : Nat → ClassId) (a_t a_bb : Nat) (t_at : Int32) (t_limit : Int32) (t_broken : Int32) (bb : Nat → Int32) (c1 : Int32) (o : Int32 × Int32 × Int32) (h : f_Rd_signed t_at t_limit t_broken bb c1 = some o) : Ct l y_Rd_signed b_Rd_signed 3 (some .int) { frames := 1, cells := 0, slots := 0, locals := 23 } D vwCl (xTy K) [.ref a_t, .int c1] [(a_t, .inr (5, [.ref a_bb, .int t_at, .int t_limit, .int t_broken])), (a_bb, .inl (K 0, 512, .inl bb))] (some (.int o.1)) [(a_t, .inr (5, [.ref a_bb, .int o.2.1, .int t_limit, .int o.2.2])), (a_bb, .inl (K 0, 512, .inl bb))] := by
  refine Ct.ofG (by decide) (Nat.le_of_ble_eq_true rfl) ?_
  refine g_L (L' := [(0, .ref a_t), (1, .int c1)]) rfl ?_
  unfold f_Rd_signed at h
  refine g_bipush (v := 32) d_Rd_signed_0 (by decide) ?_
  refine g_bipush (v := 8) d_Rd_signed_2 (by decide) ?_
  refine g_iload_n d_Rd_signed_4 rfl ?_
  refine g_imul d_Rd_signed_5 ?_
  refine g_isub d_Rd_signed_6 ?_
  refine g_istore_n (L' := [(2, .int (32 - (8 * c1))), (0, .ref a_t), (1, .int c1)]) d_Rd_signed_7 (by decide) rfl ?_
  refine g_aload_n d_Rd_signed_8 rfl ?_
  refine g_iload_n d_Rd_signed_9 rfl ?_
  obtain ⟨q10, hq10, h⟩ := it_b h
  refine g_callV (ci := 5) (q := (xR_Rd, xF_Rd, 4)) (As := [.int c1]) (rest := []) (st2 := [.int q10.1]) (ws2 := [(a_t, .inr (5, [.ref a_bb, .int q10.2.1, .int t_limit, .int q10.2.2])), (a_bb, .inl (K 0, 512, .inl bb))]) (c_Rd_unsigned l D K a_t a_bb t_at t_limit t_broken bb c1 q10 hq10) (cs_Rd_24 rfl rfl ⟨Nat.le_of_ble_eq_true rfl, Nat.le_of_ble_eq_true rfl⟩) rfl 0 rfl (gOver.mk2 [0, 1] [some 0, some 1] (by decide) (by decide) rfl rfl rfl) (Nat.le_of_ble_eq_true rfl) ⟨Nat.le_of_ble_eq_true rfl, Nat.le_of_ble_eq_true rfl⟩ d_Rd_signed_10 rfl rfl ?_
  refine g_iload_n d_Rd_signed_13 rfl ?_
  refine g_ishl d_Rd_signed_14 ?_
  refine g_iload_n d_Rd_signed_15 rfl ?_
  refine g_ishr d_Rd_signed_16 ?_
  obtain rfl := Option.some.inj h
  exact g_iret rfl d_Rd_signed_17
def f_Rd_uleb_4 : Nat → Int32 → Int32 → Int32 → (Nat → Int32) → Int32 → Int32 → Option (Int32 × Int32 × Int32)
  | 0, _, _, _, _, _, _ => none
  | n + 1, t_at, t_limit, t_broken, bb, x1, x2 => if 5 ≤ x2 then (some (0, t_at, 1)) else (if t_broken = 0 then (if t_limit ≤ t_at then (some (0, t_at, 1)) else (if t_at < 0 ∨ 512 ≤ t_at.toNatClampNeg then none else if ((bb t_at.toNatClampNeg) &&& 128) = 0 then (some (x1 ||| (((bb t_at.toNatClampNeg) &&& 127) <<< ((7 * x2) &&& 31)), t_at + 1, t_broken)) else (f_Rd_uleb_4 n (t_at + 1) t_limit t_broken bb (x1 ||| (((bb t_at.toNatClampNeg) &&& 127) <<< ((7 * x2) &&& 31))) (x2 + 1)))) else (some (0, t_at, 1)))
set_option maxRecDepth 100000 in
set_option maxHeartbeats 4000000 in
theorem j_Rd_uleb_4 (l : Launch) (D : va_G) (K : Nat → ClassId) (a_t a_bb : Nat) {av : List Value} {w0 : va_W} (n : Nat) (t_at : Int32) (t_limit : Int32) (t_broken : Int32) (bb : Nat → Int32) (x1 : Int32) (x2 : Int32) (o : Int32 × Int32 × Int32) (h : f_Rd_uleb_4 n t_at t_limit t_broken bb x1 x2 = some o) : Gm l y_Rd_uleb b_Rd_uleb 4 (some .int) { frames := 0, cells := 0, slots := 0, locals := 0 } D vwCl (xTy K) av w0 (CtF D vwCl av w0 (some (.int o.1)) [(a_t, .inr (5, [.ref a_bb, .int o.2.1, .int t_limit, .int o.2.2])), (a_bb, .inl (K 0, 512, .inl bb))]) 0 0 [(a_t, .inr (5, [.ref a_bb, .int t_at, .int t_limit, .int t_broken])), (a_bb, .inl (K 0, 512, .inl bb))] [(0, .ref a_t), (1, .int x1), (2, .int x2)] 4 [] := by
  induction n generalizing t_at t_limit t_broken bb x1 x2 with
  | zero => exact absurd h (by rw [f_Rd_uleb_4]; exact fun z => nomatch z)
  | succ n ih =>
    rw [f_Rd_uleb_4] at h
    refine g_iload_n d_Rd_uleb_4 rfl ?_
    refine g_iconst (v := 5) d_Rd_uleb_5 (by decide) ?_
    refine g_icmp_ge (tgt := 75) d_Rd_uleb_6 (by decide) (fun hc => ?_) (fun hc => ?_)
    · replace h := it_t hc h
      refine g_aload_n d_Rd_uleb_75 rfl ?_
      refine g_iconst (v := 1) d_Rd_uleb_76 (by decide) ?_
      refine pf_Rd_20 0 rfl (v := .int 1) (by decide) (by decide) (Nat.le_of_ble_eq_true rfl) (ws' := [(a_t, .inr (5, [.ref a_bb, .int t_at, .int t_limit, .int 1])), (a_bb, .inl (K 0, 512, .inl bb))]) rfl d_Rd_uleb_77 ?_
      refine g_iconst (v := 0) d_Rd_uleb_80 (by decide) ?_
      obtain rfl := Option.some.inj h
      exact g_iret rfl d_Rd_uleb_81
    · replace h := it_f hc h
      refine g_aload_n d_Rd_uleb_9 rfl ?_
      refine gf_Rd_20 0 rfl (v := .int t_broken) rfl d_Rd_uleb_10 ?_
      refine g_if_ne (tgt := 75) d_Rd_uleb_13 (by decide) (fun hc => ?_) (fun hc => ?_)
      · replace h := it_f hc h
        refine g_aload_n d_Rd_uleb_75 rfl ?_
        refine g_iconst (v := 1) d_Rd_uleb_76 (by decide) ?_
        refine pf_Rd_20 0 rfl (v := .int 1) (by decide) (by decide) (Nat.le_of_ble_eq_true rfl) (ws' := [(a_t, .inr (5, [.ref a_bb, .int t_at, .int t_limit, .int 1])), (a_bb, .inl (K 0, 512, .inl bb))]) rfl d_Rd_uleb_77 ?_
        refine g_iconst (v := 0) d_Rd_uleb_80 (by decide) ?_
        obtain rfl := Option.some.inj h
        exact g_iret rfl d_Rd_uleb_81
      · replace h := it_t hc h
        refine g_aload_n d_Rd_uleb_16 rfl ?_
        refine gf_Rd_13 0 rfl (v := .int t_at) rfl d_Rd_uleb_17 ?_
        refine g_aload_n d_Rd_uleb_20 rfl ?_
        refine gf_Rd_17 0 rfl (v := .int t_limit) rfl d_Rd_uleb_21 ?_
        refine g_icmp_ge (tgt := 75) d_Rd_uleb_24 (by decide) (fun hc => ?_) (fun hc => ?_)
        · replace h := it_t hc h
          refine g_aload_n d_Rd_uleb_75 rfl ?_
          refine g_iconst (v := 1) d_Rd_uleb_76 (by decide) ?_
          refine pf_Rd_20 0 rfl (v := .int 1) (by decide) (by decide) (Nat.le_of_ble_eq_true rfl) (ws' := [(a_t, .inr (5, [.ref a_bb, .int t_at, .int t_limit, .int 1])), (a_bb, .inl (K 0, 512, .inl bb))]) rfl d_Rd_uleb_77 ?_
          refine g_iconst (v := 0) d_Rd_uleb_80 (by decide) ?_
          obtain rfl := Option.some.inj h
          exact g_iret rfl d_Rd_uleb_81
        · replace h := it_f hc h
          refine g_aload_n d_Rd_uleb_27 rfl ?_
          refine gf_Rd_7 0 rfl (v := .ref a_bb) rfl d_Rd_uleb_28 ?_
          refine g_aload_n d_Rd_uleb_31 rfl ?_
          refine gf_Rd_13 0 rfl (v := .int t_at) rfl d_Rd_uleb_32 ?_
          obtain ⟨hi35, h⟩ := it_in h
          refine g_bald 1 0 d_Rd_uleb_35 rfl rfl hi35 ?_
          refine g_istore_n (L' := [(3, .int (bb t_at.toNatClampNeg)), (0, .ref a_t), (1, .int x1), (2, .int x2)]) d_Rd_uleb_36 (by decide) rfl ?_
          refine g_aload_n d_Rd_uleb_37 rfl ?_
          refine g_dup d_Rd_uleb_38 rfl ?_
          refine gf_Rd_13 0 rfl (v := .int t_at) rfl d_Rd_uleb_39 ?_
          refine g_iconst (v := 1) d_Rd_uleb_42 (by decide) ?_
          refine g_iadd d_Rd_uleb_43 ?_
          refine pf_Rd_13 0 rfl (v := .int (t_at + 1)) rfl rfl (Nat.le_of_ble_eq_true rfl) (ws' := [(a_t, .inr (5, [.ref a_bb, .int (t_at + 1), .int t_limit, .int t_broken])), (a_bb, .inl (K 0, 512, .inl bb))]) rfl d_Rd_uleb_44 ?_
          refine g_iload_n d_Rd_uleb_47 rfl ?_
          refine g_iload_n d_Rd_uleb_48 rfl ?_
          refine g_bipush (v := 127) d_Rd_uleb_49 (by decide) ?_
          refine g_iand d_Rd_uleb_51 ?_
          refine g_bipush (v := 7) d_Rd_uleb_52 (by decide) ?_
          refine g_iload_n d_Rd_uleb_54 rfl ?_
          refine g_imul d_Rd_uleb_55 ?_
          refine g_ishl d_Rd_uleb_56 ?_
          refine g_ior d_Rd_uleb_57 ?_
          refine g_istore_n (L' := [(1, .int (x1 ||| (((bb t_at.toNatClampNeg) &&& 127) <<< ((7 * x2) &&& 31)))), (3, .int (bb t_at.toNatClampNeg)), (0, .ref a_t), (2, .int x2)]) d_Rd_uleb_58 (by decide) rfl ?_
          refine g_iload_n d_Rd_uleb_59 rfl ?_
          refine g_sipush (v := 128) d_Rd_uleb_60 (by decide) ?_
          refine g_iand d_Rd_uleb_63 ?_
          refine g_if_ne (tgt := 69) d_Rd_uleb_64 (by decide) (fun hc => ?_) (fun hc => ?_)
          · replace h := it_f hc h
            refine g_iinc (k := 3) (v := x2 + 1) (L' := [(2, .int (x2 + 1)), (1, .int (x1 ||| (((bb t_at.toNatClampNeg) &&& 127) <<< ((7 * x2) &&& 31)))), (3, .int (bb t_at.toNatClampNeg)), (0, .ref a_t)]) d_Rd_uleb_69 rfl (by first | rfl | decide) (by decide) rfl ?_
            refine g_goto (tgt := 4) d_Rd_uleb_72 (by decide) ?_
            refine g_lsub (L' := [(0, .ref a_t), (1, .int (x1 ||| (((bb t_at.toNatClampNeg) &&& 127) <<< ((7 * x2) &&& 31)))), (2, .int (x2 + 1))]) [3, 1, 0] rfl ?_
            exact ih (t_at + 1) t_limit t_broken bb (x1 ||| (((bb t_at.toNatClampNeg) &&& 127) <<< ((7 * x2) &&& 31))) (x2 + 1) h
          · replace h := it_t hc h
            refine g_iload_n d_Rd_uleb_67 rfl ?_
            obtain rfl := Option.some.inj h
            exact g_iret rfl d_Rd_uleb_68
def f_Rd_uleb (t_at : Int32) (t_limit : Int32) (t_broken : Int32) (bb : Nat → Int32) : Option (Int32 × Int32 × Int32) := f_Rd_uleb_4 LF t_at t_limit t_broken bb 0 0
set_option maxRecDepth 100000 in
set_option maxHeartbeats 4000000 in
theorem c_Rd_uleb (l : Launch) (D : va_G) (K : Nat → ClassId) (a_t a_bb : Nat) (t_at : Int32) (t_limit : Int32) (t_broken : Int32) (bb : Nat → Int32) (o : Int32 × Int32 × Int32) (h : f_Rd_uleb t_at t_limit t_broken bb = some o) : Ct l y_Rd_uleb b_Rd_uleb 4 (some .int) { frames := 0, cells := 0, slots := 0, locals := 0 } D vwCl (xTy K) [.ref a_t] [(a_t, .inr (5, [.ref a_bb, .int t_at, .int t_limit, .int t_broken])), (a_bb, .inl (K 0, 512, .inl bb))] (some (.int o.1)) [(a_t, .inr (5, [.ref a_bb, .int o.2.1, .int t_limit, .int o.2.2])), (a_bb, .inl (K 0, 512, .inl bb))] := by
  refine Ct.ofG (by decide) (Nat.le_of_ble_eq_true rfl) ?_
  refine g_L (L' := [(0, .ref a_t)]) rfl ?_
  unfold f_Rd_uleb at h
  refine g_iconst (v := 0) d_Rd_uleb_0 (by decide) ?_
  refine g_istore_n (L' := [(1, .int 0), (0, .ref a_t)]) d_Rd_uleb_1 (by decide) rfl ?_
  refine g_iconst (v := 0) d_Rd_uleb_2 (by decide) ?_
  refine g_istore_n (L' := [(2, .int 0), (1, .int 0), (0, .ref a_t)]) d_Rd_uleb_3 (by decide) rfl ?_
  refine g_lsub (L' := [(0, .ref a_t), (1, .int 0), (2, .int 0)]) [2, 1, 0] rfl ?_
  exact j_Rd_uleb_4 l D K a_t a_bb LF t_at t_limit t_broken bb 0 0 o h
def f_Rd_sleb (t_at : Int32) (t_limit : Int32) (t_broken : Int32) (bb : Nat → Int32) : Option (Int32 × Int32 × Int32) := ((f_Rd_uleb t_at t_limit t_broken bb).bind fun q6 => if q6.2.2 = 0 then (if 32 ≤ (7 * (q6.2.1 - t_at)) then (some (q6.1, q6.2.1, q6.2.2)) else (if (q6.2.1 - 1) < 0 ∨ 512 ≤ (q6.2.1 - 1).toNatClampNeg then none else if ((bb (q6.2.1 - 1).toNatClampNeg) &&& 64) = 0 then (some (q6.1, q6.2.1, q6.2.2)) else (some (q6.1 ||| ((-1) <<< ((7 * (q6.2.1 - t_at)) &&& 31)), q6.2.1, q6.2.2)))) else (some (q6.1, q6.2.1, q6.2.2)))
set_option maxRecDepth 100000 in
set_option maxHeartbeats 4000000 in
theorem c_Rd_sleb (l : Launch) (D : va_G) (K : Nat → ClassId) (a_t a_bb : Nat) (t_at : Int32) (t_limit : Int32) (t_broken : Int32) (bb : Nat → Int32) (o : Int32 × Int32 × Int32) (h : f_Rd_sleb t_at t_limit t_broken bb = some o) : Ct l y_Rd_sleb b_Rd_sleb 4 (some .int) { frames := 1, cells := 0, slots := 0, locals := 23 } D vwCl (xTy K) [.ref a_t] [(a_t, .inr (5, [.ref a_bb, .int t_at, .int t_limit, .int t_broken])), (a_bb, .inl (K 0, 512, .inl bb))] (some (.int o.1)) [(a_t, .inr (5, [.ref a_bb, .int o.2.1, .int t_limit, .int o.2.2])), (a_bb, .inl (K 0, 512, .inl bb))] := by
  refine Ct.ofG (by decide) (Nat.le_of_ble_eq_true rfl) ?_
  refine g_L (L' := [(0, .ref a_t)]) rfl ?_
  unfold f_Rd_sleb at h
  refine g_aload_n d_Rd_sleb_0 rfl ?_
  refine gf_Rd_13 0 rfl (v := .int t_at) rfl d_Rd_sleb_1 ?_
  refine g_istore_n (L' := [(1, .int t_at), (0, .ref a_t)]) d_Rd_sleb_4 (by decide) rfl ?_
  refine g_aload_n d_Rd_sleb_5 rfl ?_
  obtain ⟨q6, hq6, h⟩ := it_b h
  refine g_callV (ci := 5) (q := (xR_Rd, xF_Rd, 4)) (As := []) (rest := []) (st2 := [.int q6.1]) (ws2 := [(a_t, .inr (5, [.ref a_bb, .int q6.2.1, .int t_limit, .int q6.2.2])), (a_bb, .inl (K 0, 512, .inl bb))]) (c_Rd_uleb l D K a_t a_bb t_at t_limit t_broken bb q6 hq6) (cs_Rd_28 rfl rfl ⟨Nat.le_of_ble_eq_true rfl, Nat.le_of_ble_eq_true rfl⟩) rfl 0 rfl (gOver.mk2 [0, 1] [some 0, some 1] (by decide) (by decide) rfl rfl rfl) (Nat.le_of_ble_eq_true rfl) ⟨Nat.le_of_ble_eq_true rfl, Nat.le_of_ble_eq_true rfl⟩ d_Rd_sleb_6 rfl rfl ?_
  refine g_istore_n (L' := [(2, .int q6.1), (1, .int t_at), (0, .ref a_t)]) d_Rd_sleb_9 (by decide) rfl ?_
  refine g_bipush (v := 7) d_Rd_sleb_10 (by decide) ?_
  refine g_aload_n d_Rd_sleb_12 rfl ?_
  refine gf_Rd_13 0 rfl (v := .int q6.2.1) rfl d_Rd_sleb_13 ?_
  refine g_iload_n d_Rd_sleb_16 rfl ?_
  refine g_isub d_Rd_sleb_17 ?_
  refine g_imul d_Rd_sleb_18 ?_
  refine g_istore_n (L' := [(3, .int (7 * (q6.2.1 - t_at))), (2, .int q6.1), (1, .int t_at), (0, .ref a_t)]) d_Rd_sleb_19 (by decide) rfl ?_
  refine g_aload_n d_Rd_sleb_20 rfl ?_
  refine gf_Rd_20 0 rfl (v := .int q6.2.2) rfl d_Rd_sleb_21 ?_
  refine g_if_ne (tgt := 50) d_Rd_sleb_24 (by decide) (fun hc => ?_) (fun hc => ?_)
  · replace h := it_f hc h
    refine g_iload_n d_Rd_sleb_50 rfl ?_
    obtain rfl := Option.some.inj h
    exact g_iret rfl d_Rd_sleb_51
  · replace h := it_t hc h
    refine g_iload_n d_Rd_sleb_27 rfl ?_
    refine g_bipush (v := 32) d_Rd_sleb_28 (by decide) ?_
    refine g_icmp_ge (tgt := 50) d_Rd_sleb_30 (by decide) (fun hc => ?_) (fun hc => ?_)
    · replace h := it_t hc h
      refine g_iload_n d_Rd_sleb_50 rfl ?_
      obtain rfl := Option.some.inj h
      exact g_iret rfl d_Rd_sleb_51
    · replace h := it_f hc h
      refine g_aload_n d_Rd_sleb_33 rfl ?_
      refine gf_Rd_7 0 rfl (v := .ref a_bb) rfl d_Rd_sleb_34 ?_
      refine g_aload_n d_Rd_sleb_37 rfl ?_
      refine gf_Rd_13 0 rfl (v := .int q6.2.1) rfl d_Rd_sleb_38 ?_
      refine g_iconst (v := 1) d_Rd_sleb_41 (by decide) ?_
      refine g_isub d_Rd_sleb_42 ?_
      obtain ⟨hi43, h⟩ := it_in h
      refine g_bald 1 0 d_Rd_sleb_43 rfl rfl hi43 ?_
      refine g_bipush (v := 64) d_Rd_sleb_44 (by decide) ?_
      refine g_iand d_Rd_sleb_46 ?_
      refine g_if_ne (tgt := 52) d_Rd_sleb_47 (by decide) (fun hc => ?_) (fun hc => ?_)
      · replace h := it_f hc h
        refine g_iload_n d_Rd_sleb_52 rfl ?_
        refine g_iconst (v := (-1)) d_Rd_sleb_53 (by decide) ?_
        refine g_iload_n d_Rd_sleb_54 rfl ?_
        refine g_ishl d_Rd_sleb_55 ?_
        refine g_ior d_Rd_sleb_56 ?_
        obtain rfl := Option.some.inj h
        exact g_iret rfl d_Rd_sleb_57
      · replace h := it_t hc h
        refine g_iload_n d_Rd_sleb_50 rfl ?_
        obtain rfl := Option.some.inj h
        exact g_iret rfl d_Rd_sleb_51
def f_Rd_skip (t_at : Int32) (t_limit : Int32) (t_broken : Int32) (c1 : Int32) : Option (Int32 × Int32) := if t_broken = 0 then (if c1 < 0 then (some (t_at, 1)) else (if c1 ≤ (t_limit - t_at) then (some (t_at + c1, t_broken)) else (some (t_at, 1)))) else (some (t_at, 1))
set_option maxRecDepth 100000 in
set_option maxHeartbeats 4000000 in
theorem c_Rd_skip (l : Launch) (D : va_G) (K : Nat → ClassId) (a_t a_bb : Nat) (t_at : Int32) (t_limit : Int32) (t_broken : Int32) (c1 : Int32) (o : Int32 × Int32) (h : f_Rd_skip t_at t_limit t_broken c1 = some o) : Ct l y_Rd_skip b_Rd_skip 2 none { frames := 0, cells := 0, slots := 0, locals := 0 } D vwCl (xTy K) [.ref a_t, .int c1] [(a_t, .inr (5, [.ref a_bb, .int t_at, .int t_limit, .int t_broken]))] none [(a_t, .inr (5, [.ref a_bb, .int o.1, .int t_limit, .int o.2]))] := by
  refine Ct.ofG (by decide) (Nat.le_of_ble_eq_true rfl) ?_
  refine g_L (L' := [(0, .ref a_t), (1, .int c1)]) rfl ?_
  unfold f_Rd_skip at h
  refine g_aload_n d_Rd_skip_0 rfl ?_
  refine gf_Rd_20 0 rfl (v := .int t_broken) rfl d_Rd_skip_1 ?_
  refine g_if_ne (tgt := 24) d_Rd_skip_4 (by decide) (fun hc => ?_) (fun hc => ?_)
  · replace h := it_f hc h
    refine g_aload_n d_Rd_skip_24 rfl ?_
    refine g_iconst (v := 1) d_Rd_skip_25 (by decide) ?_
    refine pf_Rd_20 0 rfl (v := .int 1) (by decide) (by decide) (Nat.le_of_ble_eq_true rfl) (ws' := [(a_t, .inr (5, [.ref a_bb, .int t_at, .int t_limit, .int 1]))]) rfl d_Rd_skip_26 ?_
    obtain rfl := Option.some.inj h
    exact g_vret rfl d_Rd_skip_29
  · replace h := it_t hc h
    refine g_iload_n d_Rd_skip_7 rfl ?_
    refine g_if_lt (tgt := 24) d_Rd_skip_8 (by decide) (fun hc => ?_) (fun hc => ?_)
    · replace h := it_t hc h
      refine g_aload_n d_Rd_skip_24 rfl ?_
      refine g_iconst (v := 1) d_Rd_skip_25 (by decide) ?_
      refine pf_Rd_20 0 rfl (v := .int 1) (by decide) (by decide) (Nat.le_of_ble_eq_true rfl) (ws' := [(a_t, .inr (5, [.ref a_bb, .int t_at, .int t_limit, .int 1]))]) rfl d_Rd_skip_26 ?_
      obtain rfl := Option.some.inj h
      exact g_vret rfl d_Rd_skip_29
    · replace h := it_f hc h
      refine g_iload_n d_Rd_skip_11 rfl ?_
      refine g_aload_n d_Rd_skip_12 rfl ?_
      refine gf_Rd_17 0 rfl (v := .int t_limit) rfl d_Rd_skip_13 ?_
      refine g_aload_n d_Rd_skip_16 rfl ?_
      refine gf_Rd_13 0 rfl (v := .int t_at) rfl d_Rd_skip_17 ?_
      refine g_isub d_Rd_skip_20 ?_
      refine g_icmp_le (tgt := 30) d_Rd_skip_21 (by decide) (fun hc => ?_) (fun hc => ?_)
      · replace h := it_t hc h
        refine g_aload_n d_Rd_skip_30 rfl ?_
        refine g_dup d_Rd_skip_31 rfl ?_
        refine gf_Rd_13 0 rfl (v := .int t_at) rfl d_Rd_skip_32 ?_
        refine g_iload_n d_Rd_skip_35 rfl ?_
        refine g_iadd d_Rd_skip_36 ?_
        refine pf_Rd_13 0 rfl (v := .int (t_at + c1)) rfl rfl (Nat.le_of_ble_eq_true rfl) (ws' := [(a_t, .inr (5, [.ref a_bb, .int (t_at + c1), .int t_limit, .int t_broken]))]) rfl d_Rd_skip_37 ?_
        obtain rfl := Option.some.inj h
        exact g_vret rfl d_Rd_skip_40
      · replace h := it_f hc h
        refine g_aload_n d_Rd_skip_24 rfl ?_
        refine g_iconst (v := 1) d_Rd_skip_25 (by decide) ?_
        refine pf_Rd_20 0 rfl (v := .int 1) (by decide) (by decide) (Nat.le_of_ble_eq_true rfl) (ws' := [(a_t, .inr (5, [.ref a_bb, .int t_at, .int t_limit, .int 1]))]) rfl d_Rd_skip_26 ?_
        obtain rfl := Option.some.inj h
        exact g_vret rfl d_Rd_skip_29
