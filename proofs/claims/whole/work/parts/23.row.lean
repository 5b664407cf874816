def f_Ro_put (tk : Nat → Int32) (tn : Nat → Int32) (ts : Nat → Int32) (r1 : Int32) (k1 : Int32) (n1 : Int32) (s1 : Int32) : Option ((Nat → Int32) × (Nat → Int32) × (Nat → Int32)) := if r1 < 0 ∨ 9 ≤ r1.toNatClampNeg then none else if r1 < 0 ∨ 9 ≤ r1.toNatClampNeg then none else if r1 < 0 ∨ 9 ≤ r1.toNatClampNeg then none else some (upd tk r1.toNatClampNeg k1, upd tn r1.toNatClampNeg n1, upd ts r1.toNatClampNeg s1)
set_option maxRecDepth 100000 in
set_option maxHeartbeats 4000000 in
theorem c_Ro_put (l : Launch) (D : va_G) (K : Nat → ClassId) (a_t a_tk a_tn a_ts : Nat) (tk : Nat → Int32) (tn : Nat → Int32) (ts : Nat → Int32) (r1 : Int32) (k1 : Int32) (n1 : Int32) (s1 : Int32) (o : (Nat → Int32) × (Nat → Int32) × (Nat → Int32)) (h : f_Ro_put tk tn ts r1 k1 n1 s1 = some o) : Ct l y_Ro_put b_Ro_put 5 none { frames := 0, cells := 0, slots := 0, locals := 0 } D vwCl (xTy K) [.ref a_t, .int r1, .int k1, .int n1, .int s1] [(a_t, .inr (7, [.ref a_tk, .ref a_tn, .ref a_ts])), (a_tk, .inl (K 1, 9, .inl tk)), (a_tn, .inl (K 1, 9, .inl tn)), (a_ts, .inl (K 1, 9, .inl ts))] none [(a_t, .inr (7, [.ref a_tk, .ref a_tn, .ref a_ts])), (a_tk, .inl (K 1, 9, .inl o.1)), (a_tn, .inl (K 1, 9, .inl o.2.1)), (a_ts, .inl (K 1, 9, .inl o.2.2))] := by
  refine Ct.ofG (by decide) (Nat.le_of_ble_eq_true rfl) ?_
  refine g_L (L' := [(0, .ref a_t), (1, .int r1), (2, .int k1), (3, .int n1), (4, .int s1)]) rfl ?_
  unfold f_Ro_put at h
  refine g_aload_n d_Ro_put_0 rfl ?_
  refine gf_Ro_11 0 rfl (v := .ref a_tk) rfl d_Ro_put_1 ?_
  refine g_iload_n d_Ro_put_4 rfl ?_
  refine g_iload_n d_Ro_put_5 rfl ?_
  obtain ⟨hi6, h⟩ := it_in h
  refine g_iast 1 1 (ws' := [(a_t, .inr (7, [.ref a_tk, .ref a_tn, .ref a_ts])), (a_tk, .inl (K 1, 9, .inl (upd tk r1.toNatClampNeg k1))), (a_tn, .inl (K 1, 9, .inl tn)), (a_ts, .inl (K 1, 9, .inl ts))]) d_Ro_put_6 rfl rfl hi6 rfl ?_
  refine g_aload_n d_Ro_put_7 rfl ?_
  refine gf_Ro_15 0 rfl (v := .ref a_tn) rfl d_Ro_put_8 ?_
  refine g_iload_n d_Ro_put_11 rfl ?_
  refine g_iload_n d_Ro_put_12 rfl ?_
  obtain ⟨hi13, h⟩ := it_in h
  refine g_iast 2 1 (ws' := [(a_t, .inr (7, [.ref a_tk, .ref a_tn, .ref a_ts])), (a_tk, .inl (K 1, 9, .inl (upd tk r1.toNatClampNeg k1))), (a_tn, .inl (K 1, 9, .inl (upd tn r1.toNatClampNeg n1))), (a_ts, .inl (K 1, 9, .inl ts))]) d_Ro_put_13 rfl rfl hi13 rfl ?_
  refine g_aload_n d_Ro_put_14 rfl ?_
  refine gf_Ro_18 0 rfl (v := .ref a_ts) rfl d_Ro_put_15 ?_
  refine g_iload_n d_Ro_put_18 rfl ?_
  refine g_iload d_Ro_put_19 rfl ?_
  obtain ⟨hi21, h⟩ := it_in h
  refine g_iast 3 1 (ws' := [(a_t, .inr (7, [.ref a_tk, .ref a_tn, .ref a_ts])), (a_tk, .inl (K 1, 9, .inl (upd tk r1.toNatClampNeg k1))), (a_tn, .inl (K 1, 9, .inl (upd tn r1.toNatClampNeg n1))), (a_ts, .inl (K 1, 9, .inl (upd ts r1.toNatClampNeg s1)))]) d_Ro_put_21 rfl rfl hi21 rfl ?_
  obtain rfl := Option.some.inj h
  exact g_vret rfl d_Ro_put_22
def f_Ro_reset_2 : Nat → (Nat → Int32) → (Nat → Int32) → (Nat → Int32) → Int32 → Int32 → Option ((Nat → Int32) × (Nat → Int32) × (Nat → Int32))
  | 0, _, _, _, _, _ => none
  | n + 1, tk, tn, ts, x1, x2 => if 8 ≤ x2 then (((f_Ro_put tk tn ts 7 3 0 0).bind fun q28 => ((f_Ro_put q28.1 q28.2.1 q28.2.2 x1 0 0 0).bind fun q36 => ((f_Ro_put q36.1 q36.2.1 q36.2.2 8 0 0 0).bind fun q45 => some (q45.1, q45.2.1, q45.2.2))))) else (((f_Ro_put tk tn ts x2 1 0 0).bind fun q13 => f_Ro_reset_2 n q13.1 q13.2.1 q13.2.2 x1 (x2 + 1)))
set_option maxRecDepth 100000 in
set_option maxHeartbeats 4000000 in
theorem j_Ro_reset_2 (l : Launch) (D : va_G) (K : Nat → ClassId) (a_t a_tk a_tn a_ts : Nat) {av : List Value} {w0 : va_W} (n : Nat) (tk : Nat → Int32) (tn : Nat → Int32) (ts : Nat → Int32) (x1 : Int32) (x2 : Int32) (o : (Nat → Int32) × (Nat → Int32) × (Nat → Int32)) (h : f_Ro_reset_2 n tk tn ts x1 x2 = some o) : Gm l y_Ro_reset b_Ro_reset 3 none { frames := 1, cells := 0, slots := 0, locals := 24 } D vwCl (xTy K) av w0 (CtF D vwCl av w0 none [(a_t, .inr (7, [.ref a_tk, .ref a_tn, .ref a_ts])), (a_tk, .inl (K 1, 9, .inl o.1)), (a_tn, .inl (K 1, 9, .inl o.2.1)), (a_ts, .inl (K 1, 9, .inl o.2.2))]) 0 0 [(a_t, .inr (7, [.ref a_tk, .ref a_tn, .ref a_ts])), (a_tk, .inl (K 1, 9, .inl tk)), (a_tn, .inl (K 1, 9, .inl tn)), (a_ts, .inl (K 1, 9, .inl ts))] [(0, .ref a_t), (1, .int x1), (2, .int x2)] 2 [] := by
  induction n generalizing tk tn ts x1 x2 with
  | zero => exact absurd h (by rw [f_Ro_reset_2]; exact fun z => nomatch z)
  | succ n ih =>
    rw [f_Ro_reset_2] at h
    refine g_iload_n d_Ro_reset_2 rfl ?_
    refine g_bipush (v := 8) d_Ro_reset_3 (by decide) ?_
    refine g_icmp_ge (tgt := 22) d_Ro_reset_5 (by decide) (fun hc => ?_) (fun hc => ?_)
    · replace h := it_t hc h
      refine g_aload_n d_Ro_reset_22 rfl ?_
      refine g_bipush (v := 7) d_Ro_reset_23 (by decide) ?_
      refine g_iconst (v := 3) d_Ro_reset_25 (by decide) ?_
      refine g_iconst (v := 0) d_Ro_reset_26 (by decide) ?_
      refine g_iconst (v := 0) d_Ro_reset_27 (by decide) ?_
      obtain ⟨q28, hq28, h⟩ := it_b h
      refine g_callV (ci := 7) (q := (xR_Ro, xF_Ro, 3)) (As := [.int 7, .int 3, .int 0, .int 0]) (rest := []) (st2 := []) (ws2 := [(a_t, .inr (7, [.ref a_tk, .ref a_tn, .ref a_ts])), (a_tk, .inl (K 1, 9, .inl q28.1)), (a_tn, .inl (K 1, 9, .inl q28.2.1)), (a_ts, .inl (K 1, 9, .inl q28.2.2))]) (c_Ro_put l D K a_t a_tk a_tn a_ts tk tn ts 7 3 0 0 q28 hq28) (cs_Ro_21 rfl rfl ⟨Nat.le_of_ble_eq_true rfl, Nat.le_of_ble_eq_true rfl⟩) rfl 0 rfl (gOver.mk2 [0, 1, 2, 3] [some 0, some 1, some 2, some 3] (by decide) (by decide) rfl rfl rfl) (Nat.le_of_ble_eq_true rfl) ⟨Nat.le_of_ble_eq_true rfl, Nat.le_of_ble_eq_true rfl⟩ d_Ro_reset_28 rfl rfl ?_
      refine g_aload_n d_Ro_reset_31 rfl ?_
      refine g_iload_n d_Ro_reset_32 rfl ?_
      refine g_iconst (v := 0) d_Ro_reset_33 (by decide) ?_
      refine g_iconst (v := 0) d_Ro_reset_34 (by decide) ?_
      refine g_iconst (v := 0) d_Ro_reset_35 (by decide) ?_
      obtain ⟨q36, hq36, h⟩ := it_b h
      refine g_callV (ci := 7) (q := (xR_Ro, xF_Ro, 3)) (As := [.int x1, .int 0, .int 0, .int 0]) (rest := []) (st2 := []) (ws2 := [(a_t, .inr (7, [.ref a_tk, .ref a_tn, .ref a_ts])), (a_tk, .inl (K 1, 9, .inl q36.1)), (a_tn, .inl (K 1, 9, .inl q36.2.1)), (a_ts, .inl (K 1, 9, .inl q36.2.2))]) (c_Ro_put l D K a_t a_tk a_tn a_ts q28.1 q28.2.1 q28.2.2 x1 0 0 0 q36 hq36) (cs_Ro_21 rfl rfl ⟨Nat.le_of_ble_eq_true rfl, Nat.le_of_ble_eq_true rfl⟩) rfl 0 rfl (gOver.mk2 [0, 1, 2, 3] [some 0, some 1, some 2, some 3] (by decide) (by decide) rfl rfl rfl) (Nat.le_of_ble_eq_true rfl) ⟨Nat.le_of_ble_eq_true rfl, Nat.le_of_ble_eq_true rfl⟩ d_Ro_reset_36 rfl rfl ?_
      refine g_aload_n d_Ro_reset_39 rfl ?_
      refine g_bipush (v := 8) d_Ro_reset_40 (by decide) ?_
      refine g_iconst (v := 0) d_Ro_reset_42 (by decide) ?_
      refine g_iconst (v := 0) d_Ro_reset_43 (by decide) ?_
      refine g_iconst (v := 0) d_Ro_reset_44 (by decide) ?_
      obtain ⟨q45, hq45, h⟩ := it_b h
      refine g_callV (ci := 7) (q := (xR_Ro, xF_Ro, 3)) (As := [.int 8, .int 0, .int 0, .int 0]) (rest := []) (st2 := []) (ws2 := [(a_t, .inr (7, [.ref a_tk, .ref a_tn, .ref a_ts])), (a_tk, .inl (K 1, 9, .inl q45.1)), (a_tn, .inl (K 1, 9, .inl q45.2.1)), (a_ts, .inl (K 1, 9, .inl q45.2.2))]) (c_Ro_put l D K a_t a_tk a_tn a_ts q36.1 q36.2.1 q36.2.2 8 0 0 0 q45 hq45) (cs_Ro_21 rfl rfl ⟨Nat.le_of_ble_eq_true rfl, Nat.le_of_ble_eq_true rfl⟩) rfl 0 rfl (gOver.mk2 [0, 1, 2, 3] [some 0, some 1, some 2, some 3] (by decide) (by decide) rfl rfl rfl) (Nat.le_of_ble_eq_true rfl) ⟨Nat.le_of_ble_eq_true rfl, Nat.le_of_ble_eq_true rfl⟩ d_Ro_reset_45 rfl rfl ?_
      obtain rfl := Option.some.inj h
      exact g_vret rfl d_Ro_reset_48
    · replace h := it_f hc h
      refine g_aload_n d_Ro_reset_8 rfl ?_
      refine g_iload_n d_Ro_reset_9 rfl ?_
      refine g_iconst (v := 1) d_Ro_reset_10 (by decide) ?_
      refine g_iconst (v := 0) d_Ro_reset_11 (by decide) ?_
      refine g_iconst (v := 0) d_Ro_reset_12 (by decide) ?_
      obtain ⟨q13, hq13, h⟩ := it_b h
      refine g_callV (ci := 7) (q := (xR_Ro, xF_Ro, 3)) (As := [.int x2, .int 1, .int 0, .int 0]) (rest := []) (st2 := []) (ws2 := [(a_t, .inr (7, [.ref a_tk, .ref a_tn, .ref a_ts])), (a_tk, .inl (K 1, 9, .inl q13.1)), (a_tn, .inl (K 1, 9, .inl q13.2.1)), (a_ts, .inl (K 1, 9, .inl q13.2.2))]) (c_Ro_put l D K a_t a_tk a_tn a_ts tk tn ts x2 1 0 0 q13 hq13) (cs_Ro_21 rfl rfl ⟨Nat.le_of_ble_eq_true rfl, Nat.le_of_ble_eq_true rfl⟩) rfl 0 rfl (gOver.mk2 [0, 1, 2, 3] [some 0, some 1, some 2, some 3] (by decide) (by decide) rfl rfl rfl) (Nat.le_of_ble_eq_true rfl) ⟨Nat.le_of_ble_eq_true rfl, Nat.le_of_ble_eq_true rfl⟩ d_Ro_reset_13 rfl rfl ?_
      refine g_iinc (k := 2) (v := x2 + 1) (L' := [(2, .int (x2 + 1)), (0, .ref a_t), (1, .int x1)]) d_Ro_reset_16 rfl (by first | rfl | decide) (by decide) rfl ?_
      refine g_goto (tgt := 2) d_Ro_reset_19 (by decide) ?_
      refine g_lsub (L' := [(0, .ref a_t), (1, .int x1), (2, .int (x2 + 1))]) [1, 2, 0] rfl ?_
      exact ih q13.1 q13.2.1 q13.2.2 x1 (x2 + 1) h
def f_Ro_reset (tk : Nat → Int32) (tn : Nat → Int32) (ts : Nat → Int32) (r1 : Int32) : Option ((Nat → Int32) × (Nat → Int32) × (Nat → Int32)) := f_Ro_reset_2 LF tk tn ts r1 0
set_option maxRecDepth 100000 in
set_option maxHeartbeats 4000000 in
theorem c_Ro_reset (l : Launch) (D : va_G) (K : Nat → ClassId) (a_t a_tk a_tn a_ts : Nat) (tk : Nat → Int32) (tn : Nat → Int32) (ts : Nat → Int32) (r1 : Int32) (o : (Nat → Int32) × (Nat → Int32) × (Nat → Int32)) (h : f_Ro_reset tk tn ts r1 = some o) : Ct l y_Ro_reset b_Ro_reset 3 none { frames := 1, cells := 0, slots := 0, locals := 24 } D vwCl (xTy K) [.ref a_t, .int r1] [(a_t, .inr (7, [.ref a_tk, .ref a_tn, .ref a_ts])), (a_tk, .inl (K 1, 9, .inl tk)), (a_tn, .inl (K 1, 9, .inl tn)), (a_ts, .inl (K 1, 9, .inl ts))] none [(a_t, .inr (7, [.ref a_tk, .ref a_tn, .ref a_ts])), (a_tk, .inl (K 1, 9, .inl o.1)), (a_tn, .inl (K 1, 9, .inl o.2.1)), (a_ts, .inl (K 1, 9, .inl o.2.2))] := by
  refine Ct.ofG (by decide) (Nat.le_of_ble_eq_true rfl) ?_
  refine g_L (L' := [(0, .ref a_t), (1, .int r1)]) rfl ?_
  unfold f_Ro_reset at h
  refine g_iconst (v := 0) d_Ro_reset_0 (by decide) ?_
  refine g_istore_n (L' := [(2, .int 0), (0, .ref a_t), (1, .int r1)]) d_Ro_reset_1 (by decide) rfl ?_
  refine g_lsub (L' := [(0, .ref a_t), (1, .int r1), (2, .int 0)]) [1, 2, 0] rfl ?_
  exact j_Ro_reset_2 l D K a_t a_tk a_tn a_ts LF tk tn ts r1 0 o h
def f_Ro_putCfa (tk : Nat → Int32) (tn : Nat → Int32) (ts : Nat → Int32) (r1 : Int32) (n1 : Int32) : Option ((Nat → Int32) × (Nat → Int32) × (Nat → Int32)) := ((f_Ro_put tk tn ts 8 1 n1 r1).bind fun q6 => some (q6.1, q6.2.1, q6.2.2))
set_option maxRecDepth 100000 in
set_option maxHeartbeats 4000000 in
theorem c_Ro_putCfa (l : Launch) (D : va_G) (K : Nat → ClassId) (a_t a_tk a_tn a_ts : Nat) (tk : Nat → Int32) (tn : Nat → Int32) (ts : Nat → Int32) (r1 : Int32) (n1 : Int32) (o : (Nat → Int32) × (Nat → Int32) × (Nat → Int32)) (h : f_Ro_putCfa tk tn ts r1 n1 = some o) : Ct l y_Ro_putCfa b_Ro_putCfa 3 none { frames := 1, cells := 0, slots := 0, locals := 24 } D vwCl (xTy K) [.ref a_t, .int r1, .int n1] [(a_t, .inr (7, [.ref a_tk, .ref a_tn, .ref a_ts])), (a_tk, .inl (K 1, 9, .inl tk)), (a_tn, .inl (K 1, 9, .inl tn)), (a_ts, .inl (K 1, 9, .inl ts))] none [(a_t, .inr (7, [.ref a_tk, .ref a_tn, .ref a_ts])), (a_tk, .inl (K 1, 9, .inl o.1)), (a_tn, .inl (K 1, 9, .inl o.2.1)), (a_ts, .inl (K 1, 9, .inl o.2.2))] := by
  refine Ct.ofG (by decide) (Nat.le_of_ble_eq_true rfl) ?_
  refine g_L (L' := [(0, .ref a_t), (1, .int r1), (2, .int n1)]) rfl ?_
  unfold f_Ro_putCfa at h
  refine g_aload_n d_Ro_putCfa_0 rfl ?_
  refine g_bipush (v := 8) d_Ro_putCfa_1 (by decide) ?_
  refine g_iconst (v := 1) d_Ro_putCfa_3 (by decide) ?_
  refine g_iload_n d_Ro_putCfa_4 rfl ?_
  refine g_iload_n d_Ro_putCfa_5 rfl ?_
  obtain ⟨q6, hq6, h⟩ := it_b h
  refine g_callV (ci := 7) (q := (xR_Ro, xF_Ro, 3)) (As := [.int 8, .int 1, .int n1, .int r1]) (rest := []) (st2 := []) (ws2 := [(a_t, .inr (7, [.ref a_tk, .ref a_tn, .ref a_ts])), (a_tk, .inl (K 1, 9, .inl q6.1)), (a_tn, .inl (K 1, 9, .inl q6.2.1)), (a_ts, .inl (K 1, 9, .inl q6.2.2))]) (c_Ro_put l D K a_t a_tk a_tn a_ts tk tn ts 8 1 n1 r1 q6 hq6) (cs_Ro_21 rfl rfl ⟨Nat.le_of_ble_eq_true rfl, Nat.le_of_ble_eq_true rfl⟩) rfl 0 rfl (gOver.mk2 [0, 1, 2, 3] [some 0, some 1, some 2, some 3] (by decide) (by decide) rfl rfl rfl) (Nat.le_of_ble_eq_true rfl) ⟨Nat.le_of_ble_eq_true rfl, Nat.le_of_ble_eq_true rfl⟩ d_Ro_putCfa_6 rfl rfl ?_
  obtain rfl := Option.some.inj h
  exact g_vret rfl d_Ro_putCfa_9
def f_Ro_cfaRegister (tk : Nat → Int32) (ts : Nat → Int32) : Option (Int32) := if (8 : Int32) < 0 ∨ 9 ≤ (8 : Int32).toNatClampNeg then none else if (tk (8 : Int32).toNatClampNeg) = 1 then (if (8 : Int32) < 0 ∨ 9 ≤ (8 : Int32).toNatClampNeg then none else some (ts (8 : Int32).toNatClampNeg)) else (some 0)
set_option maxRecDepth 100000 in
set_option maxHeartbeats 4000000 in
theorem c_Ro_cfaRegister (l : Launch) (D : va_G) (K : Nat → ClassId) (a_t a_tk a_tn a_ts : Nat) (tk : Nat → Int32) (ts : Nat → Int32) (o : Int32) (h : f_Ro_cfaRegister tk ts = some o) : Ct l y_Ro_cfaRegister b_Ro_cfaRegister 1 (some .int) { frames := 0, cells := 0, slots := 0, locals := 0 } D vwCl (xTy K) [.ref a_t] [(a_t, .inr (7, [.ref a_tk, .ref a_tn, .ref a_ts])), (a_tk, .inl (K 1, 9, .inl tk)), (a_ts, .inl (K 1, 9, .inl ts))] (some (.int o)) [(a_t, .inr (7, [.ref a_tk, .ref a_tn, .ref a_ts])), (a_tk, .inl (K 1, 9, .inl tk)), (a_ts, .inl (K 1, 9, .inl ts))] := by
  refine Ct.ofG (by decide) (Nat.le_of_ble_eq_true rfl) ?_
  refine g_L (L' := [(0, .ref a_t)]) rfl ?_
  unfold f_Ro_cfaRegister at h
  refine g_aload_n d_Ro_cfaRegister_0 rfl ?_
  refine gf_Ro_11 0 rfl (v := .ref a_tk) rfl d_Ro_cfaRegister_1 ?_
  refine g_bipush (v := 8) d_Ro_cfaRegister_4 (by decide) ?_
  obtain ⟨hi6, h⟩ := it_in h
  refine g_iald 1 1 d_Ro_cfaRegister_6 rfl rfl hi6 ?_
  refine g_iconst (v := 1) d_Ro_cfaRegister_7 (by decide) ?_
  refine g_icmp_ne (tgt := 21) d_Ro_cfaRegister_8 (by decide) (fun hc => ?_) (fun hc => ?_)
  · replace h := it_f hc h
    refine g_iconst (v := 0) d_Ro_cfaRegister_21 (by decide) ?_
    obtain rfl := Option.some.inj h
    exact g_iret rfl d_Ro_cfaRegister_22
  · replace h := it_t hc h
    refine g_aload_n d_Ro_cfaRegister_11 rfl ?_
    refine gf_Ro_18 0 rfl (v := .ref a_ts) rfl d_Ro_cfaRegister_12 ?_
    refine g_bipush (v := 8) d_Ro_cfaRegister_15 (by decide) ?_
    obtain ⟨hi17, h⟩ := it_in h
    refine g_iald 2 1 d_Ro_cfaRegister_17 rfl rfl hi17 ?_
    refine g_goto (tgt := 22) d_Ro_cfaRegister_18 (by decide) ?_
    obtain rfl := Option.some.inj h
    exact g_iret rfl d_Ro_cfaRegister_22
def f_Ro_cfaNumber (tk : Nat → Int32) (tn : Nat → Int32) : Option (Int32) := if (8 : Int32) < 0 ∨ 9 ≤ (8 : Int32).toNatClampNeg then none else if (tk (8 : Int32).toNatClampNeg) = 1 then (if (8 : Int32) < 0 ∨ 9 ≤ (8 : Int32).toNatClampNeg then none else some (tn (8 : Int32).toNatClampNeg)) else (some 0)
set_option maxRecDepth 100000 in
set_option maxHeartbeats 4000000 in
theorem c_Ro_cfaNumber (l : Launch) (D : va_G) (K : Nat → ClassId) (a_t a_tk a_tn a_ts : Nat) (tk : Nat → Int32) (tn : Nat → Int32) (o : Int32) (h : f_Ro_cfaNumber tk tn = some o) : Ct l y_Ro_cfaNumber b_Ro_cfaNumber 1 (some .int) { frames := 0, cells := 0, slots := 0, locals := 0 } D vwCl (xTy K) [.ref a_t] [(a_t, .inr (7, [.ref a_tk, .ref a_tn, .ref a_ts])), (a_tk, .inl (K 1, 9, .inl tk)), (a_tn, .inl (K 1, 9, .inl tn))] (some (.int o)) [(a_t, .inr (7, [.ref a_tk, .ref a_tn, .ref a_ts])), (a_tk, .inl (K 1, 9, .inl tk)), (a_tn, .inl (K 1, 9, .inl tn))] := by
  refine Ct.ofG (by decide) (Nat.le_of_ble_eq_true rfl) ?_
  refine g_L (L' := [(0, .ref a_t)]) rfl ?_
  unfold f_Ro_cfaNumber at h
  refine g_aload_n d_Ro_cfaNumber_0 rfl ?_
  refine gf_Ro_11 0 rfl (v := .ref a_tk) rfl d_Ro_cfaNumber_1 ?_
  refine g_bipush (v := 8) d_Ro_cfaNumber_4 (by decide) ?_
  obtain ⟨hi6, h⟩ := it_in h
  refine g_iald 1 1 d_Ro_cfaNumber_6 rfl rfl hi6 ?_
  refine g_iconst (v := 1) d_Ro_cfaNumber_7 (by decide) ?_
  refine g_icmp_ne (tgt := 21) d_Ro_cfaNumber_8 (by decide) (fun hc => ?_) (fun hc => ?_)
  · replace h := it_f hc h
    refine g_iconst (v := 0) d_Ro_cfaNumber_21 (by decide) ?_
    obtain rfl := Option.some.inj h
    exact g_iret rfl d_Ro_cfaNumber_22
  · replace h := it_t hc h
    refine g_aload_n d_Ro_cfaNumber_11 rfl ?_
    refine gf_Ro_15 0 rfl (v := .ref a_tn) rfl d_Ro_cfaNumber_12 ?_
    refine g_bipush (v := 8) d_Ro_cfaNumber_15 (by decide) ?_
    obtain ⟨hi17, h⟩ := it_in h
    refine g_iald 2 1 d_Ro_cfaNumber_17 rfl rfl hi17 ?_
    refine g_goto (tgt := 22) d_Ro_cfaNumber_18 (by decide) ?_
    obtain rfl := Option.some.inj h
    exact g_iret rfl d_Ro_cfaNumber_22
def f_Ro_part (tk : Nat → Int32) (tn : Nat → Int32) (ts : Nat → Int32) (r1 : Int32) (w1 : Int32) : Option (Int32) := if w1 = 0 then (if r1 < 0 ∨ 9 ≤ r1.toNatClampNeg then none else some (tk r1.toNatClampNeg)) else if w1 = 1 then (if r1 < 0 ∨ 9 ≤ r1.toNatClampNeg then none else some (tn r1.toNatClampNeg)) else if r1 < 0 ∨ 9 ≤ r1.toNatClampNeg then none else some (ts r1.toNatClampNeg)
set_option maxRecDepth 100000 in
set_option maxHeartbeats 4000000 in
theorem c_Ro_part (l : Launch) (D : va_G) (K : Nat → ClassId) (a_t a_tk a_tn a_ts : Nat) (tk : Nat → Int32) (tn : Nat → Int32) (ts : Nat → Int32) (r1 : Int32) (w1 : Int32) (o : Int32) (h : f_Ro_part tk tn ts r1 w1 = some o) : Ct l y_Ro_part b_Ro_part 3 (some .int) { frames := 0, cells := 0, slots := 0, locals := 0 } D vwCl (xTy K) [.ref a_t, .int r1, .int w1] [(a_t, .inr (7, [.ref a_tk, .ref a_tn, .ref a_ts])), (a_tk, .inl (K 1, 9, .inl tk)), (a_tn, .inl (K 1, 9, .inl tn)), (a_ts, .inl (K 1, 9, .inl ts))] (some (.int o)) [(a_t, .inr (7, [.ref a_tk, .ref a_tn, .ref a_ts])), (a_tk, .inl (K 1, 9, .inl tk)), (a_tn, .inl (K 1, 9, .inl tn)), (a_ts, .inl (K 1, 9, .inl ts))] := by
  refine Ct.ofG (by decide) (Nat.le_of_ble_eq_true rfl) ?_
  refine g_L (L' := [(0, .ref a_t), (1, .int r1), (2, .int w1)]) rfl ?_
  unfold f_Ro_part at h
  refine g_iload_n d_Ro_part_0 rfl ?_
  by_cases hc1_28 : w1 = 0
  · replace h := it_t hc1_28 h
    refine g_lookup (off := 27) (tgt := 28) d_Ro_part_1 (by decide) (by rw [hc1_28]; decide +kernel) (by decide) ?_
    refine g_aload_n d_Ro_part_28 rfl ?_
    refine gf_Ro_11 0 rfl (v := .ref a_tk) rfl d_Ro_part_29 ?_
    refine g_iload_n d_Ro_part_32 rfl ?_
    obtain ⟨hi33, h⟩ := it_in h
    refine g_iald 1 1 d_Ro_part_33 rfl rfl hi33 ?_
    obtain rfl := Option.some.inj h
    exact g_iret rfl d_Ro_part_34
  replace h := it_f hc1_28 h
  by_cases hc1_35 : w1 = 1
  · replace h := it_t hc1_35 h
    refine g_lookup (off := 34) (tgt := 35) d_Ro_part_1 (by decide) (by rw [hc1_35]; decide +kernel) (by decide) ?_
    refine g_aload_n d_Ro_part_35 rfl ?_
    refine gf_Ro_15 0 rfl (v := .ref a_tn) rfl d_Ro_part_36 ?_
    refine g_iload_n d_Ro_part_39 rfl ?_
    obtain ⟨hi40, h⟩ := it_in h
    refine g_iald 2 1 d_Ro_part_40 rfl rfl hi40 ?_
    obtain rfl := Option.some.inj h
    exact g_iret rfl d_Ro_part_41
  replace h := it_f hc1_35 h
  refine g_lookup (off := 41) (tgt := 42) d_Ro_part_1 (by decide) (by show Op.lookupswitch.offset _ _ _ = _; rw [lv_osw hc1_28 (by decide), lv_osw hc1_35 (by decide)]; rfl) (by decide) ?_
  refine g_aload_n d_Ro_part_42 rfl ?_
  refine gf_Ro_18 0 rfl (v := .ref a_ts) rfl d_Ro_part_43 ?_
  refine g_iload_n d_Ro_part_46 rfl ?_
  obtain ⟨hi47, h⟩ := it_in h
  refine g_iald 3 1 d_Ro_part_47 rfl rfl hi47 ?_
  obtain rfl := Option.some.inj h
  exact g_iret rfl d_Ro_part_48
def f_Ro_copyFrom (tk : Nat → Int32) (tn : Nat → Int32) (ts : Nat → Int32) (uk : Nat → Int32) (un : Nat → Int32) (us : Nat → Int32) : Option ((Nat → Int32) × (Nat → Int32) × (Nat → Int32)) := some (va_cpy uk tk 0 0 9, va_cpy un tn 0 0 9, va_cpy us ts 0 0 9)
set_option maxRecDepth 100000 in
set_option maxHeartbeats 4000000 in
theorem c_Ro_copyFrom (l : Launch) (D : va_G) (K : Nat → ClassId) (a_t a_tk a_tn a_ts a_u a_uk a_un a_us : Nat) (tk : Nat → Int32) (tn : Nat → Int32) (ts : Nat → Int32) (uk : Nat → Int32) (un : Nat → Int32) (us : Nat → Int32) (o : (Nat → Int32) × (Nat → Int32) × (Nat → Int32)) (h : f_Ro_copyFrom tk tn ts uk un us = some o) : Ct l y_Ro_copyFrom b_Ro_copyFrom 2 none { frames := 1, cells := 0, slots := 0, locals := 100 } D vwCl (xTy K) [.ref a_t, .ref a_u] [(a_t, .inr (7, [.ref a_tk, .ref a_tn, .ref a_ts])), (a_tk, .inl (K 1, 9, .inl tk)), (a_tn, .inl (K 1, 9, .inl tn)), (a_ts, .inl (K 1, 9, .inl ts)), (a_u, .inr (7, [.ref a_uk, .ref a_un, .ref a_us])), (a_uk, .inl (K 1, 9, .inl uk)), (a_un, .inl (K 1, 9, .inl un)), (a_us, .inl (K 1, 9, .inl us))] none [(a_t, .inr (7, [.ref a_tk, .ref a_tn, .ref a_ts])), (a_tk, .inl (K 1, 9, .inl o.1)), (a_tn, .inl (K 1, 9, .inl o.2.1)), (a_ts, .inl (K 1, 9, .inl o.2.2)), (a_u, .inr (7, [.ref a_uk, .ref a_un, .ref a_us])), (a_uk, .inl (K 1, 9, .inl uk)), (a_un, .inl (K 1, 9, .inl un)), (a_us, .inl (K 1, 9, .inl us))] := by
  refine Ct.ofG (by decide) (Nat.le_of_ble_eq_true rfl) ?_
  refine g_L (L' := [(0, .ref a_t), (1, .ref a_u)]) rfl ?_
  unfold f_Ro_copyFrom at h
  refine g_aload_n d_Ro_copyFrom_0 rfl ?_
  refine gf_Ro_11 4 rfl (v := .ref a_uk) rfl d_Ro_copyFrom_1 ?_
  refine g_iconst (v := 0) d_Ro_copyFrom_4 (by decide) ?_
  refine g_aload_n d_Ro_copyFrom_5 rfl ?_
  refine gf_Ro_11 0 rfl (v := .ref a_tk) rfl d_Ro_copyFrom_6 ?_
  refine g_iconst (v := 0) d_Ro_copyFrom_9 (by decide) ?_
  refine g_bipush (v := 9) d_Ro_copyFrom_10 (by decide) ?_
  refine g_copyi 5 1 1 (gIn_ts tb_614 rfl) (gIn_ts tb_616 rfl) (gIn_ts tb_615 rfl) (gIn_ts tb_22 rfl) rfl rfl rfl (by decide) (by decide) (by decide) (by decide) (by decide) (by decide) (by decide) (ws' := [(a_t, .inr (7, [.ref a_tk, .ref a_tn, .ref a_ts])), (a_tk, .inl (K 1, 9, .inl (va_cpy uk tk 0 0 9))), (a_tn, .inl (K 1, 9, .inl tn)), (a_ts, .inl (K 1, 9, .inl ts)), (a_u, .inr (7, [.ref a_uk, .ref a_un, .ref a_us])), (a_uk, .inl (K 1, 9, .inl uk)), (a_un, .inl (K 1, 9, .inl un)), (a_us, .inl (K 1, 9, .inl us))]) rfl d_Ro_copyFrom_12 ?_
  refine g_aload_n d_Ro_copyFrom_15 rfl ?_
  refine gf_Ro_15 4 rfl (v := .ref a_un) rfl d_Ro_copyFrom_16 ?_
  refine g_iconst (v := 0) d_Ro_copyFrom_19 (by decide) ?_
  refine g_aload_n d_Ro_copyFrom_20 rfl ?_
  refine gf_Ro_15 0 rfl (v := .ref a_tn) rfl d_Ro_copyFrom_21 ?_
  refine g_iconst (v := 0) d_Ro_copyFrom_24 (by decide) ?_
  refine g_bipush (v := 9) d_Ro_copyFrom_25 (by decide) ?_
  refine g_copyi 6 2 1 (gIn_ts tb_614 rfl) (gIn_ts tb_616 rfl) (gIn_ts tb_615 rfl) (gIn_ts tb_22 rfl) rfl rfl rfl (by decide) (by decide) (by decide) (by decide) (by decide) (by decide) (by decide) (ws' := [(a_t, .inr (7, [.ref a_tk, .ref a_tn, .ref a_ts])), (a_tk, .inl (K 1, 9, .inl (va_cpy uk tk 0 0 9))), (a_tn, .inl (K 1, 9, .inl (va_cpy un tn 0 0 9))), (a_ts, .inl (K 1, 9, .inl ts)), (a_u, .inr (7, [.ref a_uk, .ref a_un, .ref a_us])), (a_uk, .inl (K 1, 9, .inl uk)), (a_un, .inl (K 1, 9, .inl un)), (a_us, .inl (K 1, 9, .inl us))]) rfl d_Ro_copyFrom_27 ?_
  refine g_aload_n d_Ro_copyFrom_30 rfl ?_
  refine gf_Ro_18 4 rfl (v := .ref a_us) rfl d_Ro_copyFrom_31 ?_
  refine g_iconst (v := 0) d_Ro_copyFrom_34 (by decide) ?_
  refine g_aload_n d_Ro_copyFrom_35 rfl ?_
  refine gf_Ro_18 0 rfl (v := .ref a_ts) rfl d_Ro_copyFrom_36 ?_
  refine g_iconst (v := 0) d_Ro_copyFrom_39 (by decide) ?_
  refine g_bipush (v := 9) d_Ro_copyFrom_40 (by decide) ?_
  refine g_copyi 7 3 1 (gIn_ts tb_614 rfl) (gIn_ts tb_616 rfl) (gIn_ts tb_615 rfl) (gIn_ts tb_22 rfl) rfl rfl rfl (by decide) (by decide) (by decide) (by decide) (by decide) (by decide) (by decide) (ws' := [(a_t, .inr (7, [.ref a_tk, .ref a_tn, .ref a_ts])), (a_tk, .inl (K 1, 9, .inl (va_cpy uk tk 0 0 9))), (a_tn, .inl (K 1, 9, .inl (va_cpy un tn 0 0 9))), (a_ts, .inl (K 1, 9, .inl (va_cpy us ts 0 0 9))), (a_u, .inr (7, [.ref a_uk, .ref a_un, .ref a_us])), (a_uk, .inl (K 1, 9, .inl uk)), (a_un, .inl (K 1, 9, .inl un)), (a_us, .inl (K 1, 9, .inl us))]) rfl d_Ro_copyFrom_42 ?_
  obtain rfl := Option.some.inj h
  exact g_vret rfl d_Ro_copyFrom_45
def f_Ro_copyRule (tk : Nat → Int32) (tn : Nat → Int32) (ts : Nat → Int32) (uk : Nat → Int32) (un : Nat → Int32) (us : Nat → Int32) (r1 : Int32) : Option ((Nat → Int32) × (Nat → Int32) × (Nat → Int32)) := if r1 < 0 ∨ 9 ≤ r1.toNatClampNeg then none else if r1 < 0 ∨ 9 ≤ r1.toNatClampNeg then none else if r1 < 0 ∨ 9 ≤ r1.toNatClampNeg then none else ((f_Ro_put tk tn ts r1 (uk r1.toNatClampNeg) (un r1.toNatClampNeg) (us r1.toNatClampNeg)).bind fun q20 => some (q20.1, q20.2.1, q20.2.2))
set_option maxRecDepth 100000 in
set_option maxHeartbeats 4000000 in
theorem c_Ro_copyRule (l : Launch) (D : va_G) (K : Nat → ClassId) (a_t a_tk a_tn a_ts a_u a_uk a_un a_us : Nat) (tk : Nat → Int32) (tn : Nat → Int32) (ts : Nat → Int32) (uk : Nat → Int32) (un : Nat → Int32) (us : Nat → Int32) (r1 : Int32) (o : (Nat → Int32) × (Nat → Int32) × (Nat → Int32)) (h : f_Ro_copyRule tk tn ts uk un us r1 = some o) : Ct l y_Ro_copyRule b_Ro_copyRule 3 none { frames := 1, cells := 0, slots := 0, locals := 24 } D vwCl (xTy K) [.ref a_t, .ref a_u, .int r1] [(a_t, .inr (7, [.ref a_tk, .ref a_tn, .ref a_ts])), (a_tk, .inl (K 1, 9, .inl tk)), (a_tn, .inl (K 1, 9, .inl tn)), (a_ts, .inl (K 1, 9, .inl ts)), (a_u, .inr (7, [.ref a_uk, .ref a_un, .ref a_us])), (a_uk, .inl (K 1, 9, .inl uk)), (a_un, .inl (K 1, 9, .inl un)), (a_us, .inl (K 1, 9, .inl us))] none [(a_t, .inr (7, [.ref a_tk, .ref a_tn, .ref a_ts])), (a_tk, .inl (K 1, 9, .inl o.1)), (a_tn, .inl (K 1, 9, .inl o.2.1)), (a_ts, .inl (K 1, 9, .inl o.2.2)), (a_u, .inr (7, [.ref a_uk, .ref a_un, .ref a_us])), (a_uk, .inl (K 1, 9, .inl uk)), (a_un, .inl (K 1, 9, .inl un)), (a_us, .inl (K 1, 9, .inl us))] := by
  refine Ct.ofG (by decide) (Nat.le_of_ble_eq_true rfl) ?_
  refine g_L (L' := [(0, .ref a_t), (1, .ref a_u), (2, .int r1)]) rfl ?_
  unfold f_Ro_copyRule at h
  refine g_aload_n d_Ro_copyRule_0 rfl ?_
  refine g_iload_n d_Ro_copyRule_1 rfl ?_
  refine g_aload_n d_Ro_copyRule_2 rfl ?_
  refine gf_Ro_11 4 rfl (v := .ref a_uk) rfl d_Ro_copyRule_3 ?_
  refine g_iload_n d_Ro_copyRule_6 rfl ?_
  obtain ⟨hi7, h⟩ := it_in h
  refine g_iald 5 1 d_Ro_copyRule_7 rfl rfl hi7 ?_
  refine g_aload_n d_Ro_copyRule_8 rfl ?_
  refine gf_Ro_15 4 rfl (v := .ref a_un) rfl d_Ro_copyRule_9 ?_
  refine g_iload_n d_Ro_copyRule_12 rfl ?_
  obtain ⟨hi13, h⟩ := it_in h
  refine g_iald 6 1 d_Ro_copyRule_13 rfl rfl hi13 ?_
  refine g_aload_n d_Ro_copyRule_14 rfl ?_
  refine gf_Ro_18 4 rfl (v := .ref a_us) rfl d_Ro_copyRule_15 ?_
  refine g_iload_n d_Ro_copyRule_18 rfl ?_
  obtain ⟨hi19, h⟩ := it_in h
  refine g_iald 7 1 d_Ro_copyRule_19 rfl rfl hi19 ?_
  obtain ⟨q20, hq20, h⟩ := it_b h
  refine g_callV (ci := 7) (q := (xR_Ro, xF_Ro, 3)) (As := [.int r1, .int (uk r1.toNatClampNeg), .int (un r1.toNatClampNeg), .int (us r1.toNatClampNeg)]) (rest := []) (st2 := []) (ws2 := [(a_t, .inr (7, [.ref a_tk, .ref a_tn, .ref a_ts])), (a_tk, .inl (K 1, 9, .inl q20.1)), (a_tn, .inl (K 1, 9, .inl q20.2.1)), (a_ts, .inl (K 1, 9, .inl q20.2.2)), (a_u, .inr (7, [.ref a_uk, .ref a_un, .ref a_us])), (a_uk, .inl (K 1, 9, .inl uk)), (a_un, .inl (K 1, 9, .inl un)), (a_us, .inl (K 1, 9, .inl us))]) (c_Ro_put l D K a_t a_tk a_tn a_ts tk tn ts r1 (uk r1.toNatClampNeg) (un r1.toNatClampNeg) (us r1.toNatClampNeg) q20 hq20) (cs_Ro_21 rfl rfl ⟨Nat.le_of_ble_eq_true rfl, Nat.le_of_ble_eq_true rfl⟩) rfl 0 rfl (gOver.mk2 [0, 1, 2, 3] [some 0, some 1, some 2, some 3, none, none, none, none] (by decide) (by decide) rfl rfl rfl) (Nat.le_of_ble_eq_true rfl) ⟨Nat.le_of_ble_eq_true rfl, Nat.le_of_ble_eq_true rfl⟩ d_Ro_copyRule_20 rfl rfl ?_
  obtain rfl := Option.some.inj h
  exact g_vret rfl d_Ro_copyRule_23
