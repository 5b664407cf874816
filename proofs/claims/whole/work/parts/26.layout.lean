def f_La_indexAt_2 : Nat → Int32 → (Nat → Int32) → (Nat → Int32) → (Nat → Int32) → Int32 → Int32 → Option (Int32)
  | 0, _, _, _, _, _, _ => none
  | n + 1, t_count, en_isFrame, en_first, en_range, x1, x2 => if t_count ≤ x2 then (some (-1)) else (if x2 < 0 ∨ 16 ≤ x2.toNatClampNeg then none else ((f_En_covers (en_isFrame x2.toNatClampNeg) (en_first x2.toNatClampNeg) (en_range x2.toNatClampNeg) x1).bind fun q17 => if q17 = 0 then (f_La_indexAt_2 n t_count en_isFrame en_first en_range x1 (x2 + 1)) else (some x2)))
set_option maxRecDepth 100000 in
set_option maxHeartbeats 4000000 in
theorem j_La_indexAt_2 (l : Launch) (D : va_G) (K : Nat → ClassId) (a_t a_se a_rd a_li a_ls : Nat) (a_en : Nat → Nat) {av : List Value} {w0 : va_W} (n : Nat) (t_count : Int32) (en_isFrame : Nat → Int32) (en_begins : Nat → Int32) (en_instructions : Nat → Int32) (en_ends : Nat → Int32) (en_common : Nat → Int32) (en_code : Nat → Int32) (en_data : Nat → Int32) (en_returnRegister : Nat → Int32) (en_first : Nat → Int32) (en_range : Nat → Int32) (x1 : Int32) (x2 : Int32) (o : Int32) (h : f_La_indexAt_2 n t_count en_isFrame en_first en_range x1 x2 = some o) : Gm l y_La_indexAt b_La_indexAt 3 (some .int) { frames := 1, cells := 0, slots := 0, locals := 23 } D vwCl (xTy K) av w0 (CtF D vwCl av w0 (some (.int o)) ([(a_t, .inr (3, [.ref a_se, .ref a_rd, .ref a_li, .ref a_ls, .int t_count])), (a_ls, .inl (K 4, 16, .inr (.inr (.inr (.inr (fun k9 => some (a_en k9)))))))] ++ (List.range 16).map (fun k9 => (a_en k9, .inr (0, [.int (en_isFrame k9), .int (en_begins k9), .int (en_instructions k9), .int (en_ends k9), .int (en_common k9), .int (en_code k9), .int (en_data k9), .int (en_returnRegister k9), .int (en_first k9), .int (en_range k9)]))))) 0 0 ([(a_t, .inr (3, [.ref a_se, .ref a_rd, .ref a_li, .ref a_ls, .int t_count])), (a_ls, .inl (K 4, 16, .inr (.inr (.inr (.inr (fun k9 => some (a_en k9)))))))] ++ (List.range 16).map (fun k9 => (a_en k9, .inr (0, [.int (en_isFrame k9), .int (en_begins k9), .int (en_instructions k9), .int (en_ends k9), .int (en_common k9), .int (en_code k9), .int (en_data k9), .int (en_returnRegister k9), .int (en_first k9), .int (en_range k9)])))) [(0, .ref a_t), (1, .int x1), (2, .int x2)] 2 [] := by
  induction n generalizing t_count en_isFrame en_begins en_instructions en_ends en_common en_code en_data en_returnRegister en_first en_range x1 x2 with
  | zero => exact absurd h (by rw [f_La_indexAt_2]; exact fun z => nomatch z)
  | succ n ih =>
    rw [f_La_indexAt_2] at h
    refine g_iload_n d_La_indexAt_2 rfl ?_
    refine g_aload_n d_La_indexAt_3 rfl ?_
    refine gf_La_33 0 rfl (v := .int t_count) rfl d_La_indexAt_4 ?_
    refine g_icmp_ge (tgt := 31) d_La_indexAt_7 (by decide) (fun hc => ?_) (fun hc => ?_)
    · replace h := it_t hc h
      refine g_iconst (v := (-1)) d_La_indexAt_31 (by decide) ?_
      obtain rfl := Option.some.inj h
      exact g_iret rfl d_La_indexAt_32
    · replace h := it_f hc h
      refine g_aload_n d_La_indexAt_10 rfl ?_
      refine gf_La_28 0 rfl (v := .ref a_ls) rfl d_La_indexAt_11 ?_
      refine g_iload_n d_La_indexAt_14 rfl ?_
      obtain ⟨hi15, h⟩ := it_in h
      refine g_aldq 1 4 d_La_indexAt_15 rfl rfl hi15 (v := .ref (a_en x2.toNatClampNeg)) rfl ?_
      refine g_iload_n d_La_indexAt_16 rfl ?_
      obtain ⟨q17, hq17, h⟩ := it_b h
      refine g_callV (ci := 0) (q := (xR_En, xF_En, 10)) (As := [.int x1]) (rest := []) (st2 := [.int q17]) (c_En_covers l D K (a_en x2.toNatClampNeg) (en_isFrame x2.toNatClampNeg) (en_begins x2.toNatClampNeg) (en_instructions x2.toNatClampNeg) (en_ends x2.toNatClampNeg) (en_common x2.toNatClampNeg) (en_code x2.toNatClampNeg) (en_data x2.toNatClampNeg) (en_returnRegister x2.toNatClampNeg) (en_first x2.toNatClampNeg) (en_range x2.toNatClampNeg) x1 q17 hq17) (cs_La_53 rfl rfl ⟨Nat.le_of_ble_eq_true rfl, Nat.le_of_ble_eq_true rfl⟩) rfl (2 + x2.toNatClampNeg) (gPl_at (gLt hi15)) (gOver.rd [2 + x2.toNatClampNeg] rfl (gPl_one (gLt hi15))) (Nat.le_of_ble_eq_true rfl) ⟨Nat.le_of_ble_eq_true rfl, Nat.le_of_ble_eq_true rfl⟩ d_La_indexAt_17 rfl rfl ?_
      refine g_if_eq (tgt := 25) d_La_indexAt_20 (by decide) (fun hc => ?_) (fun hc => ?_)
      · replace h := it_t hc h
        refine g_iinc (k := 2) (v := x2 + 1) (L' := [(2, .int (x2 + 1)), (0, .ref a_t), (1, .int x1)]) d_La_indexAt_25 rfl (by first | rfl | decide) (by decide) rfl ?_
        refine g_goto (tgt := 2) d_La_indexAt_28 (by decide) ?_
        refine g_lsub (L' := [(0, .ref a_t), (1, .int x1), (2, .int (x2 + 1))]) [1, 2, 0] rfl ?_
        exact ih t_count en_isFrame en_begins en_instructions en_ends en_common en_code en_data en_returnRegister en_first en_range x1 (x2 + 1) h
      · replace h := it_f hc h
        refine g_iload_n d_La_indexAt_23 rfl ?_
        obtain rfl := Option.some.inj h
        exact g_iret rfl d_La_indexAt_24
def f_La_indexAt (t_count : Int32) (en_isFrame : Nat → Int32) (en_first : Nat → Int32) (en_range : Nat → Int32) (p1 : Int32) : Option (Int32) := f_La_indexAt_2 LF t_count en_isFrame en_first en_range p1 0
set_option maxRecDepth 100000 in
set_option maxHeartbeats 4000000 in
theorem c_La_indexAt (l : Launch) (D : va_G) (K : Nat → ClassId) (a_t a_se a_rd a_li a_ls : Nat) (a_en : Nat → Nat) (t_count : Int32) (en_isFrame : Nat → Int32) (en_begins : Nat → Int32) (en_instructions : Nat → Int32) (en_ends : Nat → Int32) (en_common : Nat → Int32) (en_code : Nat → Int32) (en_data : Nat → Int32) (en_returnRegister : Nat → Int32) (en_first : Nat → Int32) (en_range : Nat → Int32) (p1 : Int32) (o : Int32) (h : f_La_indexAt t_count en_isFrame en_first en_range p1 = some o) : Ct l y_La_indexAt b_La_indexAt 3 (some .int) { frames := 1, cells := 0, slots := 0, locals := 23 } D vwCl (xTy K) [.ref a_t, .int p1] ([(a_t, .inr (3, [.ref a_se, .ref a_rd, .ref a_li, .ref a_ls, .int t_count])), (a_ls, .inl (K 4, 16, .inr (.inr (.inr (.inr (fun k9 => some (a_en k9)))))))] ++ (List.range 16).map (fun k9 => (a_en k9, .inr (0, [.int (en_isFrame k9), .int (en_begins k9), .int (en_instructions k9), .int (en_ends k9), .int (en_common k9), .int (en_code k9), .int (en_data k9), .int (en_returnRegister k9), .int (en_first k9), .int (en_range k9)])))) (some (.int o)) ([(a_t, .inr (3, [.ref a_se, .ref a_rd, .ref a_li, .ref a_ls, .int t_count])), (a_ls, .inl (K 4, 16, .inr (.inr (.inr (.inr (fun k9 => some (a_en k9)))))))] ++ (List.range 16).map (fun k9 => (a_en k9, .inr (0, [.int (en_isFrame k9), .int (en_begins k9), .int (en_instructions k9), .int (en_ends k9), .int (en_common k9), .int (en_code k9), .int (en_data k9), .int (en_returnRegister k9), .int (en_first k9), .int (en_range k9)])))) := by
  refine Ct.ofG (by decide) (Nat.le_of_ble_eq_true rfl) ?_
  refine g_L (L' := [(0, .ref a_t), (1, .int p1)]) rfl ?_
  unfold f_La_indexAt at h
  refine g_iconst (v := 0) d_La_indexAt_0 (by decide) ?_
  refine g_istore_n (L' := [(2, .int 0), (0, .ref a_t), (1, .int p1)]) d_La_indexAt_1 (by decide) rfl ?_
  refine g_lsub (L' := [(0, .ref a_t), (1, .int p1), (2, .int 0)]) [1, 2, 0] rfl ?_
  exact j_La_indexAt_2 l D K a_t a_se a_rd a_li a_ls a_en LF t_count en_isFrame en_begins en_instructions en_ends en_common en_code en_data en_returnRegister en_first en_range p1 0 o h
def f_La_commonAt_2 : Nat → Int32 → (Nat → Int32) → (Nat → Int32) → Int32 → Int32 → Option (Int32)
  | 0, _, _, _, _, _ => none
  | n + 1, t_count, en_isFrame, en_begins, x1, x2 => if t_count ≤ x2 then (some (-1)) else (if x2 < 0 ∨ 16 ≤ x2.toNatClampNeg then none else if (en_begins x2.toNatClampNeg) = x1 then (if x2 < 0 ∨ 16 ≤ x2.toNatClampNeg then none else if (en_isFrame x2.toNatClampNeg) = 0 then (some x2) else (f_La_commonAt_2 n t_count en_isFrame en_begins x1 (x2 + 1))) else (f_La_commonAt_2 n t_count en_isFrame en_begins x1 (x2 + 1)))
set_option maxRecDepth 100000 in
set_option maxHeartbeats 4000000 in
theorem j_La_commonAt_2 (l : Launch) (D : va_G) (K : Nat → ClassId) (a_t a_se a_rd a_li a_ls : Nat) (a_en : Nat → Nat) {av : List Value} {w0 : va_W} (n : Nat) (t_count : Int32) (en_isFrame : Nat → Int32) (en_begins : Nat → Int32) (en_instructions : Nat → Int32) (en_ends : Nat → Int32) (en_common : Nat → Int32) (en_code : Nat → Int32) (en_data : Nat → Int32) (en_returnRegister : Nat → Int32) (en_first : Nat → Int32) (en_range : Nat → Int32) (x1 : Int32) (x2 : Int32) (o : Int32) (h : f_La_commonAt_2 n t_count en_isFrame en_begins x1 x2 = some o) : Gm l y_La_commonAt b_La_commonAt 3 (some .int) { frames := 0, cells := 0, slots := 0, locals := 0 } D vwCl (xTy K) av w0 (CtF D vwCl av w0 (some (.int o)) ([(a_t, .inr (3, [.ref a_se, .ref a_rd, .ref a_li, .ref a_ls, .int t_count])), (a_ls, .inl (K 4, 16, .inr (.inr (.inr (.inr (fun k9 => some (a_en k9)))))))] ++ (List.range 16).map (fun k9 => (a_en k9, .inr (0, [.int (en_isFrame k9), .int (en_begins k9), .int (en_instructions k9), .int (en_ends k9), .int (en_common k9), .int (en_code k9), .int (en_data k9), .int (en_returnRegister k9), .int (en_first k9), .int (en_range k9)]))))) 0 0 ([(a_t, .inr (3, [.ref a_se, .ref a_rd, .ref a_li, .ref a_ls, .int t_count])), (a_ls, .inl (K 4, 16, .inr (.inr (.inr (.inr (fun k9 => some (a_en k9)))))))] ++ (List.range 16).map (fun k9 => (a_en k9, .inr (0, [.int (en_isFrame k9), .int (en_begins k9), .int (en_instructions k9), .int (en_ends k9), .int (en_common k9), .int (en_code k9), .int (en_data k9), .int (en_returnRegister k9), .int (en_first k9), .int (en_range k9)])))) [(0, .ref a_t), (1, .int x1), (2, .int x2)] 2 [] := by
  induction n generalizing t_count en_isFrame en_begins en_instructions en_ends en_common en_code en_data en_returnRegister en_first en_range x1 x2 with
  | zero => exact absurd h (by rw [f_La_commonAt_2]; exact fun z => nomatch z)
  | succ n ih =>
    rw [f_La_commonAt_2] at h
    refine g_iload_n d_La_commonAt_2 rfl ?_
    refine g_aload_n d_La_commonAt_3 rfl ?_
    refine gf_La_33 0 rfl (v := .int t_count) rfl d_La_commonAt_4 ?_
    refine g_icmp_ge (tgt := 43) d_La_commonAt_7 (by decide) (fun hc => ?_) (fun hc => ?_)
    · replace h := it_t hc h
      refine g_iconst (v := (-1)) d_La_commonAt_43 (by decide) ?_
      obtain rfl := Option.some.inj h
      exact g_iret rfl d_La_commonAt_44
    · replace h := it_f hc h
      refine g_aload_n d_La_commonAt_10 rfl ?_
      refine gf_La_28 0 rfl (v := .ref a_ls) rfl d_La_commonAt_11 ?_
      refine g_iload_n d_La_commonAt_14 rfl ?_
      obtain ⟨hi15, h⟩ := it_in h
      refine g_aldq 1 4 d_La_commonAt_15 rfl rfl hi15 (v := .ref (a_en x2.toNatClampNeg)) rfl ?_
      refine gf_La_74 (2 + x2.toNatClampNeg) (gPl_at (gLt hi15)) (v := .int (en_begins x2.toNatClampNeg)) rfl d_La_commonAt_16 ?_
      refine g_iload_n d_La_commonAt_19 rfl ?_
      refine g_icmp_ne (tgt := 37) d_La_commonAt_20 (by decide) (fun hc => ?_) (fun hc => ?_)
      · replace h := it_f hc h
        refine g_iinc (k := 2) (v := x2 + 1) (L' := [(2, .int (x2 + 1)), (0, .ref a_t), (1, .int x1)]) d_La_commonAt_37 rfl (by first | rfl | decide) (by decide) rfl ?_
        refine g_goto (tgt := 2) d_La_commonAt_40 (by decide) ?_
        refine g_lsub (L' := [(0, .ref a_t), (1, .int x1), (2, .int (x2 + 1))]) [1, 2, 0] rfl ?_
        exact ih t_count en_isFrame en_begins en_instructions en_ends en_common en_code en_data en_returnRegister en_first en_range x1 (x2 + 1) h
      · replace h := it_t hc h
        refine g_aload_n d_La_commonAt_23 rfl ?_
        refine gf_La_28 0 rfl (v := .ref a_ls) rfl d_La_commonAt_24 ?_
        refine g_iload_n d_La_commonAt_27 rfl ?_
        obtain ⟨hi28, h⟩ := it_in h
        refine g_aldq 1 4 d_La_commonAt_28 rfl rfl hi28 (v := .ref (a_en x2.toNatClampNeg)) rfl ?_
        refine gf_La_77 (2 + x2.toNatClampNeg) (gPl_at (gLt hi28)) (v := .int (en_isFrame x2.toNatClampNeg)) rfl d_La_commonAt_29 ?_
        refine g_if_ne (tgt := 37) d_La_commonAt_32 (by decide) (fun hc => ?_) (fun hc => ?_)
        · replace h := it_f hc h
          refine g_iinc (k := 2) (v := x2 + 1) (L' := [(2, .int (x2 + 1)), (0, .ref a_t), (1, .int x1)]) d_La_commonAt_37 rfl (by first | rfl | decide) (by decide) rfl ?_
          refine g_goto (tgt := 2) d_La_commonAt_40 (by decide) ?_
          refine g_lsub (L' := [(0, .ref a_t), (1, .int x1), (2, .int (x2 + 1))]) [1, 2, 0] rfl ?_
          exact ih t_count en_isFrame en_begins en_instructions en_ends en_common en_code en_data en_returnRegister en_first en_range x1 (x2 + 1) h
        · replace h := it_t hc h
          refine g_iload_n d_La_commonAt_35 rfl ?_
          obtain rfl := Option.some.inj h
          exact g_iret rfl d_La_commonAt_36
def f_La_commonAt (t_count : Int32) (en_isFrame : Nat → Int32) (en_begins : Nat → Int32) (b1 : Int32) : Option (Int32) := f_La_commonAt_2 LF t_count en_isFrame en_begins b1 0
set_option maxRecDepth 100000 in
set_option maxHeartbeats 4000000 in
theorem c_La_commonAt (l : Launch) (D : va_G) (K : Nat → ClassId) (a_t a_se a_rd a_li a_ls : Nat) (a_en : Nat → Nat) (t_count : Int32) (en_isFrame : Nat → Int32) (en_begins : Nat → Int32) (en_instructions : Nat → Int32) (en_ends : Nat → Int32) (en_common : Nat → Int32) (en_code : Nat → Int32) (en_data : Nat → Int32) (en_returnRegister : Nat → Int32) (en_first : Nat → Int32) (en_range : Nat → Int32) (b1 : Int32) (o : Int32) (h : f_La_commonAt t_count en_isFrame en_begins b1 = some o) : Ct l y_La_commonAt b_La_commonAt 3 (some .int) { frames := 0, cells := 0, slots := 0, locals := 0 } D vwCl (xTy K) [.ref a_t, .int b1] ([(a_t, .inr (3, [.ref a_se, .ref a_rd, .ref a_li, .ref a_ls, .int t_count])), (a_ls, .inl (K 4, 16, .inr (.inr (.inr (.inr (fun k9 => some (a_en k9)))))))] ++ (List.range 16).map (fun k9 => (a_en k9, .inr (0, [.int (en_isFrame k9), .int (en_begins k9), .int (en_instructions k9), .int (en_ends k9), .int (en_common k9), .int (en_code k9), .int (en_data k9), .int (en_returnRegister k9), .int (en_first k9), .int (en_range k9)])))) (some (.int o)) ([(a_t, .inr (3, [.ref a_se, .ref a_rd, .ref a_li, .ref a_ls, .int t_count])), (a_ls, .inl (K 4, 16, .inr (.inr (.inr (.inr (fun k9 => some (a_en k9)))))))] ++ (List.range 16).map (fun k9 => (a_en k9, .inr (0, [.int (en_isFrame k9), .int (en_begins k9), .int (en_instructions k9), .int (en_ends k9), .int (en_common k9), .int (en_code k9), .int (en_data k9), .int (en_returnRegister k9), .int (en_first k9), .int (en_range k9)])))) := by
  refine Ct.ofG (by decide) (Nat.le_of_ble_eq_true rfl) ?_
  refine g_L (L' := [(0, .ref a_t), (1, .int b1)]) rfl ?_
  unfold f_La_commonAt at h
  refine g_iconst (v := 0) d_La_commonAt_0 (by decide) ?_
  refine g_istore_n (L' := [(2, .int 0), (0, .ref a_t), (1, .int b1)]) d_La_commonAt_1 (by decide) rfl ?_
  refine g_lsub (L' := [(0, .ref a_t), (1, .int b1), (2, .int 0)]) [1, 2, 0] rfl ?_
  exact j_La_commonAt_2 l D K a_t a_se a_rd a_li a_ls a_en LF t_count en_isFrame en_begins en_instructions en_ends en_common en_code en_data en_returnRegister en_first en_range b1 0 o h
def f_La_commonFault (bb : Nat → Int32) (rd_at : Int32) (rd_limit : Int32) (rd_broken : Int32) (en_instructions : Nat → Int32) (en_code : Nat → Int32) (en_data : Nat → Int32) (en_returnRegister : Nat → Int32) (j1 : Nat) : Option (Int32 × Int32 × Int32 × (Nat → Int32) × (Nat → Int32) × (Nat → Int32) × (Nat → Int32)) := ((f_Rd_unsigned rd_at rd_limit rd_broken bb 1).bind fun q13 => if q13.1 = 1 then (((f_Rd_uleb q13.2.1 rd_limit q13.2.2 bb).bind fun q35 => if q35.2.2 = 0 then (((f_Rd_sleb q35.2.1 rd_limit q35.2.2 bb).bind fun q66 => if q66.2.2 = 0 then (((f_Rd_uleb q66.2.1 rd_limit q66.2.2 bb).bind fun q97 => if q97.2.2 = 0 then (if ((upd en_returnRegister j1 q97.1) j1) < 0 then (some (q66.2.1, q97.2.1, q97.2.2, en_instructions, upd en_code j1 q35.1, upd en_data j1 q66.1, upd en_returnRegister j1 q97.1)) else (if ((upd en_returnRegister j1 q97.1) j1) < 8 then (some ((-1), q97.2.1, q97.2.2, upd en_instructions j1 q97.2.1, upd en_code j1 q35.1, upd en_data j1 q66.1, upd en_returnRegister j1 q97.1)) else (some (q66.2.1, q97.2.1, q97.2.2, en_instructions, upd en_code j1 q35.1, upd en_data j1 q66.1, upd en_returnRegister j1 q97.1)))) else (some (q66.2.1, q97.2.1, q97.2.2, en_instructions, upd en_code j1 q35.1, upd en_data j1 q66.1, upd en_returnRegister j1 q97.1)))) else (some (q35.2.1, q66.2.1, q66.2.2, en_instructions, upd en_code j1 q35.1, upd en_data j1 q66.1, en_returnRegister)))) else (some (q13.2.1, q35.2.1, q35.2.2, en_instructions, upd en_code j1 q35.1, en_data, en_returnRegister)))) else (some (rd_at, q13.2.1, q13.2.2, en_instructions, en_code, en_data, en_returnRegister)))
set_option maxRecDepth 100000 in
set_option maxHeartbeats 4000000 in
theorem c_La_commonFault (l : Launch) (D : va_G) (K : Nat → ClassId) (a_t a_se a_bb a_rd a_li a_ls : Nat) (a_en : Nat → Nat) (t_count : Int32) (bb : Nat → Int32) (rd_at : Int32) (rd_limit : Int32) (rd_broken : Int32) (en_isFrame : Nat → Int32) (en_begins : Nat → Int32) (en_instructions : Nat → Int32) (en_ends : Nat → Int32) (en_common : Nat → Int32) (en_code : Nat → Int32) (en_data : Nat → Int32) (en_returnRegister : Nat → Int32) (en_first : Nat → Int32) (en_range : Nat → Int32) (j1 : Nat) (hj1 : j1 < 16) (o : Int32 × Int32 × Int32 × (Nat → Int32) × (Nat → Int32) × (Nat → Int32) × (Nat → Int32)) (h : f_La_commonFault bb rd_at rd_limit rd_broken en_instructions en_code en_data en_returnRegister j1 = some o) : Ct l y_La_commonFault b_La_commonFault 3 (some .int) { frames := 2, cells := 0, slots := 0, locals := 46 } D vwCl (xTy K) [.ref a_t, .ref (a_en j1)] ([(a_t, .inr (3, [.ref a_se, .ref a_rd, .ref a_li, .ref a_ls, .int t_count])), (a_bb, .inl (K 0, 512, .inl bb)), (a_rd, .inr (5, [.ref a_bb, .int rd_at, .int rd_limit, .int rd_broken]))] ++ (List.range 16).map (fun k9 => (a_en k9, .inr (0, [.int (en_isFrame k9), .int (en_begins k9), .int (en_instructions k9), .int (en_ends k9), .int (en_common k9), .int (en_code k9), .int (en_data k9), .int (en_returnRegister k9), .int (en_first k9), .int (en_range k9)])))) (some (.int o.1)) ([(a_t, .inr (3, [.ref a_se, .ref a_rd, .ref a_li, .ref a_ls, .int t_count])), (a_bb, .inl (K 0, 512, .inl bb)), (a_rd, .inr (5, [.ref a_bb, .int o.2.1, .int rd_limit, .int o.2.2.1]))] ++ (List.range 16).map (fun k9 => (a_en k9, .inr (0, [.int (en_isFrame k9), .int (en_begins k9), .int (o.2.2.2.1 k9), .int (en_ends k9), .int (en_common k9), .int (o.2.2.2.2.1 k9), .int (o.2.2.2.2.2.1 k9), .int (o.2.2.2.2.2.2 k9), .int (en_first k9), .int (en_range k9)])))) := by
  refine Ct.ofG (by decide) (Nat.le_of_ble_eq_true rfl) ?_
  refine g_L (L' := [(0, .ref a_t), (1, .ref (a_en j1))]) rfl ?_
  unfold f_La_commonFault at h
  refine g_aload_n d_La_commonFault_0 rfl ?_
  refine gf_La_15 0 rfl (v := .ref a_rd) rfl d_La_commonFault_1 ?_
  refine gf_La_71 2 rfl (v := .int rd_at) rfl d_La_commonFault_4 ?_
  refine g_istore_n (L' := [(2, .int rd_at), (0, .ref a_t), (1, .ref (a_en j1))]) d_La_commonFault_7 (by decide) rfl ?_
  refine g_aload_n d_La_commonFault_8 rfl ?_
  refine gf_La_15 0 rfl (v := .ref a_rd) rfl d_La_commonFault_9 ?_
  refine g_iconst (v := 1) d_La_commonFault_12 (by decide) ?_
  obtain ⟨q13, hq13, h⟩ := it_b h
  refine g_callV (ci := 5) (q := (xR_Rd, xF_Rd, 4)) (As := [.int 1]) (rest := []) (st2 := [.int q13.1]) (ws2 := ([(a_t, .inr (3, [.ref a_se, .ref a_rd, .ref a_li, .ref a_ls, .int t_count])), (a_bb, .inl (K 0, 512, .inl bb)), (a_rd, .inr (5, [.ref a_bb, .int q13.2.1, .int rd_limit, .int q13.2.2]))] ++ (List.range 16).map (fun k9 => (a_en k9, .inr (0, [.int (en_isFrame k9), .int (en_begins k9), .int (en_instructions k9), .int (en_ends k9), .int (en_common k9), .int (en_code k9), .int (en_data k9), .int (en_returnRegister k9), .int (en_first k9), .int (en_range k9)]))))) (c_Rd_unsigned l D K a_rd a_bb rd_at rd_limit rd_broken bb 1 q13 hq13) (cs_La_63 rfl rfl ⟨Nat.le_of_ble_eq_true rfl, Nat.le_of_ble_eq_true rfl⟩) rfl 2 rfl (by refine gOver.fr (gOver.mk2 [2, 1] [none, some 1, some 0] (by decide) (by decide) ?_ ?_ ?_) <;> rfl) (Nat.le_of_ble_eq_true rfl) ⟨Nat.le_of_ble_eq_true rfl, Nat.le_of_ble_eq_true rfl⟩ d_La_commonFault_13 rfl rfl ?_
  refine g_iconst (v := 1) d_La_commonFault_16 (by decide) ?_
  refine g_icmp_eq (tgt := 22) d_La_commonFault_17 (by decide) (fun hc => ?_) (fun hc => ?_)
  · replace h := it_t hc h
    refine g_aload_n d_La_commonFault_22 rfl ?_
    refine gf_La_15 0 rfl (v := .ref a_rd) rfl d_La_commonFault_23 ?_
    refine gf_La_71 2 rfl (v := .int q13.2.1) rfl d_La_commonFault_26 ?_
    refine g_istore_n (L' := [(2, .int q13.2.1), (0, .ref a_t), (1, .ref (a_en j1))]) d_La_commonFault_29 (by decide) rfl ?_
    refine g_aload_n d_La_commonFault_30 rfl ?_
    refine g_aload_n d_La_commonFault_31 rfl ?_
    refine gf_La_15 0 rfl (v := .ref a_rd) rfl d_La_commonFault_32 ?_
    obtain ⟨q35, hq35, h⟩ := it_b h
    refine g_callV (ci := 5) (q := (xR_Rd, xF_Rd, 4)) (As := []) (rest := [.ref (a_en j1)]) (st2 := [.int q35.1, .ref (a_en j1)]) (ws2 := ([(a_t, .inr (3, [.ref a_se, .ref a_rd, .ref a_li, .ref a_ls, .int t_count])), (a_bb, .inl (K 0, 512, .inl bb)), (a_rd, .inr (5, [.ref a_bb, .int q35.2.1, .int rd_limit, .int q35.2.2]))] ++ (List.range 16).map (fun k9 => (a_en k9, .inr (0, [.int (en_isFrame k9), .int (en_begins k9), .int (en_instructions k9), .int (en_ends k9), .int (en_common k9), .int (en_code k9), .int (en_data k9), .int (en_returnRegister k9), .int (en_first k9), .int (en_range k9)]))))) (c_Rd_uleb l D K a_rd a_bb q13.2.1 rd_limit q13.2.2 bb q35 hq35) (cs_La_92 rfl rfl ⟨Nat.le_of_ble_eq_true rfl, Nat.le_of_ble_eq_true rfl⟩) rfl 2 rfl (by refine gOver.fr (gOver.mk2 [2, 1] [none, some 1, some 0] (by decide) (by decide) ?_ ?_ ?_) <;> rfl) (Nat.le_of_ble_eq_true rfl) ⟨Nat.le_of_ble_eq_true rfl, Nat.le_of_ble_eq_true rfl⟩ d_La_commonFault_35 rfl rfl ?_
    refine pf_La_96 (3 + j1) (gPl_at hj1) (v := .int q35.1) rfl rfl (Nat.le_of_ble_eq_true rfl) (ws' := ([(a_t, .inr (3, [.ref a_se, .ref a_rd, .ref a_li, .ref a_ls, .int t_count])), (a_bb, .inl (K 0, 512, .inl bb)), (a_rd, .inr (5, [.ref a_bb, .int q35.2.1, .int rd_limit, .int q35.2.2]))] ++ (List.range 16).map (fun k9 => (a_en k9, .inr (0, [.int (en_isFrame k9), .int (en_begins k9), .int (en_instructions k9), .int (en_ends k9), .int (en_common k9), .int ((upd en_code j1 q35.1) k9), .int (en_data k9), .int (en_returnRegister k9), .int (en_first k9), .int (en_range k9)]))))) (gPl_set hj1 (by simp only [pk_us]; try rfl) (fun k9 hk9 => by simp only [pk_un hk9])) d_La_commonFault_38 ?_
    refine g_aload_n d_La_commonFault_41 rfl ?_
    refine gf_La_15 0 rfl (v := .ref a_rd) rfl d_La_commonFault_42 ?_
    refine gf_La_67 2 rfl (v := .int q35.2.2) rfl d_La_commonFault_45 ?_
    refine g_if_eq (tgt := 53) d_La_commonFault_48 (by decide) (fun hc => ?_) (fun hc => ?_)
    · replace h := it_t hc h
      refine g_aload_n d_La_commonFault_53 rfl ?_
      refine gf_La_15 0 rfl (v := .ref a_rd) rfl d_La_commonFault_54 ?_
      refine gf_La_71 2 rfl (v := .int q35.2.1) rfl d_La_commonFault_57 ?_
      refine g_istore_n (L' := [(2, .int q35.2.1), (0, .ref a_t), (1, .ref (a_en j1))]) d_La_commonFault_60 (by decide) rfl ?_
      refine g_aload_n d_La_commonFault_61 rfl ?_
      refine g_aload_n d_La_commonFault_62 rfl ?_
      refine gf_La_15 0 rfl (v := .ref a_rd) rfl d_La_commonFault_63 ?_
      obtain ⟨q66, hq66, h⟩ := it_b h
      refine g_callV (ci := 5) (q := (xR_Rd, xF_Rd, 4)) (As := []) (rest := [.ref (a_en j1)]) (st2 := [.int q66.1, .ref (a_en j1)]) (ws2 := ([(a_t, .inr (3, [.ref a_se, .ref a_rd, .ref a_li, .ref a_ls, .int t_count])), (a_bb, .inl (K 0, 512, .inl bb)), (a_rd, .inr (5, [.ref a_bb, .int q66.2.1, .int rd_limit, .int q66.2.2]))] ++ (List.range 16).map (fun k9 => (a_en k9, .inr (0, [.int (en_isFrame k9), .int (en_begins k9), .int (en_instructions k9), .int (en_ends k9), .int (en_common k9), .int ((upd en_code j1 q35.1) k9), .int (en_data k9), .int (en_returnRegister k9), .int (en_first k9), .int (en_range k9)]))))) (c_Rd_sleb l D K a_rd a_bb q35.2.1 rd_limit q35.2.2 bb q66 hq66) (cs_La_99 rfl rfl ⟨Nat.le_of_ble_eq_true rfl, Nat.le_of_ble_eq_true rfl⟩) rfl 2 rfl (by refine gOver.fr (gOver.mk2 [2, 1] [none, some 1, some 0] (by decide) (by decide) ?_ ?_ ?_) <;> rfl) (Nat.le_of_ble_eq_true rfl) ⟨Nat.le_of_ble_eq_true rfl, Nat.le_of_ble_eq_true rfl⟩ d_La_commonFault_66 rfl rfl ?_
      refine pf_La_102 (3 + j1) (gPl_at hj1) (v := .int q66.1) rfl rfl (Nat.le_of_ble_eq_true rfl) (ws' := ([(a_t, .inr (3, [.ref a_se, .ref a_rd, .ref a_li, .ref a_ls, .int t_count])), (a_bb, .inl (K 0, 512, .inl bb)), (a_rd, .inr (5, [.ref a_bb, .int q66.2.1, .int rd_limit, .int q66.2.2]))] ++ (List.range 16).map (fun k9 => (a_en k9, .inr (0, [.int (en_isFrame k9), .int (en_begins k9), .int (en_instructions k9), .int (en_ends k9), .int (en_common k9), .int ((upd en_code j1 q35.1) k9), .int ((upd en_data j1 q66.1) k9), .int (en_returnRegister k9), .int (en_first k9), .int (en_range k9)]))))) (gPl_set hj1 (by simp only [pk_us]; try rfl) (fun k9 hk9 => by simp only [pk_un hk9])) d_La_commonFault_69 ?_
      refine g_aload_n d_La_commonFault_72 rfl ?_
      refine gf_La_15 0 rfl (v := .ref a_rd) rfl d_La_commonFault_73 ?_
      refine gf_La_67 2 rfl (v := .int q66.2.2) rfl d_La_commonFault_76 ?_
      refine g_if_eq (tgt := 84) d_La_commonFault_79 (by decide) (fun hc => ?_) (fun hc => ?_)
      · replace h := it_t hc h
        refine g_aload_n d_La_commonFault_84 rfl ?_
        refine gf_La_15 0 rfl (v := .ref a_rd) rfl d_La_commonFault_85 ?_
        refine gf_La_71 2 rfl (v := .int q66.2.1) rfl d_La_commonFault_88 ?_
        refine g_istore_n (L' := [(2, .int q66.2.1), (0, .ref a_t), (1, .ref (a_en j1))]) d_La_commonFault_91 (by decide) rfl ?_
        refine g_aload_n d_La_commonFault_92 rfl ?_
        refine g_aload_n d_La_commonFault_93 rfl ?_
        refine gf_La_15 0 rfl (v := .ref a_rd) rfl d_La_commonFault_94 ?_
        obtain ⟨q97, hq97, h⟩ := it_b h
        refine g_callV (ci := 5) (q := (xR_Rd, xF_Rd, 4)) (As := []) (rest := [.ref (a_en j1)]) (st2 := [.int q97.1, .ref (a_en j1)]) (ws2 := ([(a_t, .inr (3, [.ref a_se, .ref a_rd, .ref a_li, .ref a_ls, .int t_count])), (a_bb, .inl (K 0, 512, .inl bb)), (a_rd, .inr (5, [.ref a_bb, .int q97.2.1, .int rd_limit, .int q97.2.2]))] ++ (List.range 16).map (fun k9 => (a_en k9, .inr (0, [.int (en_isFrame k9), .int (en_begins k9), .int (en_instructions k9), .int (en_ends k9), .int (en_common k9), .int ((upd en_code j1 q35.1) k9), .int ((upd en_data j1 q66.1) k9), .int (en_returnRegister k9), .int (en_first k9), .int (en_range k9)]))))) (c_Rd_uleb l D K a_rd a_bb q66.2.1 rd_limit q66.2.2 bb q97 hq97) (cs_La_92 rfl rfl ⟨Nat.le_of_ble_eq_true rfl, Nat.le_of_ble_eq_true rfl⟩) rfl 2 rfl (by refine gOver.fr (gOver.mk2 [2, 1] [none, some 1, some 0] (by decide) (by decide) ?_ ?_ ?_) <;> rfl) (Nat.le_of_ble_eq_true rfl) ⟨Nat.le_of_ble_eq_true rfl, Nat.le_of_ble_eq_true rfl⟩ d_La_commonFault_97 rfl rfl ?_
        refine pf_La_105 (3 + j1) (gPl_at hj1) (v := .int q97.1) rfl rfl (Nat.le_of_ble_eq_true rfl) (ws' := ([(a_t, .inr (3, [.ref a_se, .ref a_rd, .ref a_li, .ref a_ls, .int t_count])), (a_bb, .inl (K 0, 512, .inl bb)), (a_rd, .inr (5, [.ref a_bb, .int q97.2.1, .int rd_limit, .int q97.2.2]))] ++ (List.range 16).map (fun k9 => (a_en k9, .inr (0, [.int (en_isFrame k9), .int (en_begins k9), .int (en_instructions k9), .int (en_ends k9), .int (en_common k9), .int ((upd en_code j1 q35.1) k9), .int ((upd en_data j1 q66.1) k9), .int ((upd en_returnRegister j1 q97.1) k9), .int (en_first k9), .int (en_range k9)]))))) (gPl_set hj1 (by simp only [pk_us]; try rfl) (fun k9 hk9 => by simp only [pk_un hk9])) d_La_commonFault_100 ?_
        refine g_aload_n d_La_commonFault_103 rfl ?_
        refine gf_La_15 0 rfl (v := .ref a_rd) rfl d_La_commonFault_104 ?_
        refine gf_La_67 2 rfl (v := .int q97.2.2) rfl d_La_commonFault_107 ?_
        refine g_if_ne (tgt := 129) d_La_commonFault_110 (by decide) (fun hc => ?_) (fun hc => ?_)
        · replace h := it_f hc h
          refine g_iload_n d_La_commonFault_129 rfl ?_
          obtain rfl := Option.some.inj h
          exact g_iret rfl d_La_commonFault_130
        · replace h := it_t hc h
          refine g_aload_n d_La_commonFault_113 rfl ?_
          refine gf_La_105 (3 + j1) (gPl_at hj1) (v := .int ((upd en_returnRegister j1 q97.1) j1)) rfl d_La_commonFault_114 ?_
          refine g_if_lt (tgt := 129) d_La_commonFault_117 (by decide) (fun hc => ?_) (fun hc => ?_)
          · replace h := it_t hc h
            refine g_iload_n d_La_commonFault_129 rfl ?_
            obtain rfl := Option.some.inj h
            exact g_iret rfl d_La_commonFault_130
          · replace h := it_f hc h
            refine g_aload_n d_La_commonFault_120 rfl ?_
            refine gf_La_105 (3 + j1) (gPl_at hj1) (v := .int ((upd en_returnRegister j1 q97.1) j1)) rfl d_La_commonFault_121 ?_
            refine g_bipush (v := 8) d_La_commonFault_124 (by decide) ?_
            refine g_icmp_lt (tgt := 131) d_La_commonFault_126 (by decide) (fun hc => ?_) (fun hc => ?_)
            · replace h := it_t hc h
              refine g_aload_n d_La_commonFault_131 rfl ?_
              refine g_aload_n d_La_commonFault_132 rfl ?_
              refine gf_La_15 0 rfl (v := .ref a_rd) rfl d_La_commonFault_133 ?_
              refine gf_La_71 2 rfl (v := .int q97.2.1) rfl d_La_commonFault_136 ?_
              refine pf_La_108 (3 + j1) (gPl_at hj1) (v := .int q97.2.1) rfl rfl (Nat.le_of_ble_eq_true rfl) (ws' := ([(a_t, .inr (3, [.ref a_se, .ref a_rd, .ref a_li, .ref a_ls, .int t_count])), (a_bb, .inl (K 0, 512, .inl bb)), (a_rd, .inr (5, [.ref a_bb, .int q97.2.1, .int rd_limit, .int q97.2.2]))] ++ (List.range 16).map (fun k9 => (a_en k9, .inr (0, [.int (en_isFrame k9), .int (en_begins k9), .int ((upd en_instructions j1 q97.2.1) k9), .int (en_ends k9), .int (en_common k9), .int ((upd en_code j1 q35.1) k9), .int ((upd en_data j1 q66.1) k9), .int ((upd en_returnRegister j1 q97.1) k9), .int (en_first k9), .int (en_range k9)]))))) (gPl_set hj1 (by simp only [pk_us]; try rfl) (fun k9 hk9 => by simp only [pk_un hk9])) d_La_commonFault_139 ?_
              refine g_iconst (v := (-1)) d_La_commonFault_142 (by decide) ?_
              obtain rfl := Option.some.inj h
              exact g_iret rfl d_La_commonFault_143
            · replace h := it_f hc h
              refine g_iload_n d_La_commonFault_129 rfl ?_
              obtain rfl := Option.some.inj h
              exact g_iret rfl d_La_commonFault_130
      · replace h := it_f hc h
        refine g_iload_n d_La_commonFault_82 rfl ?_
        obtain rfl := Option.some.inj h
        exact g_iret rfl d_La_commonFault_83
    · replace h := it_f hc h
      refine g_iload_n d_La_commonFault_51 rfl ?_
      obtain rfl := Option.some.inj h
      exact g_iret rfl d_La_commonFault_52
  · replace h := it_f hc h
    refine g_iload_n d_La_commonFault_20 rfl ?_
    obtain rfl := Option.some.inj h
    exact g_iret rfl d_La_commonFault_21
def f_La_frameFault (bb : Nat → Int32) (rd_at : Int32) (rd_limit : Int32) (rd_broken : Int32) (en_instructions : Nat → Int32) (en_first : Nat → Int32) (en_range : Nat → Int32) (j1 : Nat) : Option (Int32 × Int32 × Int32 × (Nat → Int32) × (Nat → Int32) × (Nat → Int32)) := ((f_Rd_unsigned rd_at rd_limit rd_broken bb 4).bind fun q14 => if q14.2.2 = 0 then (if 0 ≤ ((upd en_first j1 q14.1) j1) then (((f_Rd_unsigned q14.2.1 rd_limit q14.2.2 bb 4).bind fun q53 => if q53.2.2 = 0 then (if 0 ≤ ((upd en_range j1 q53.1) j1) then (some ((-1), q53.2.1, q53.2.2, upd en_instructions j1 q53.2.1, upd en_first j1 q14.1, upd en_range j1 q53.1)) else (some (q14.2.1, q53.2.1, q53.2.2, en_instructions, upd en_first j1 q14.1, upd en_range j1 q53.1))) else (some (q14.2.1, q53.2.1, q53.2.2, en_instructions, upd en_first j1 q14.1, upd en_range j1 q53.1)))) else (some (rd_at, q14.2.1, q14.2.2, en_instructions, upd en_first j1 q14.1, en_range))) else (some (rd_at, q14.2.1, q14.2.2, en_instructions, upd en_first j1 q14.1, en_range)))
set_option maxRecDepth 100000 in
set_option maxHeartbeats 4000000 in
theorem c_La_frameFault (l : Launch) (D : va_G) (K : Nat → ClassId) (a_t a_se a_bb a_rd a_li a_ls : Nat) (a_en : Nat → Nat) (t_count : Int32) (bb : Nat → Int32) (rd_at : Int32) (rd_limit : Int32) (rd_broken : Int32) (en_isFrame : Nat → Int32) (en_begins : Nat → Int32) (en_instructions : Nat → Int32) (en_ends : Nat → Int32) (en_common : Nat → Int32) (en_code : Nat → Int32) (en_data : Nat → Int32) (en_returnRegister : Nat → Int32) (en_first : Nat → Int32) (en_range : Nat → Int32) (j1 : Nat) (hj1 : j1 < 16) (o : Int32 × Int32 × Int32 × (Nat → Int32) × (Nat → Int32) × (Nat → Int32)) (h : f_La_frameFault bb rd_at rd_limit rd_broken en_instructions en_first en_range j1 = some o) : Ct l y_La_frameFault b_La_frameFault 3 (some .int) { frames := 1, cells := 0, slots := 0, locals := 23 } D vwCl (xTy K) [.ref a_t, .ref (a_en j1)] ([(a_t, .inr (3, [.ref a_se, .ref a_rd, .ref a_li, .ref a_ls, .int t_count])), (a_bb, .inl (K 0, 512, .inl bb)), (a_rd, .inr (5, [.ref a_bb, .int rd_at, .int rd_limit, .int rd_broken]))] ++ (List.range 16).map (fun k9 => (a_en k9, .inr (0, [.int (en_isFrame k9), .int (en_begins k9), .int (en_instructions k9), .int (en_ends k9), .int (en_common k9), .int (en_code k9), .int (en_data k9), .int (en_returnRegister k9), .int (en_first k9), .int (en_range k9)])))) (some (.int o.1)) ([(a_t, .inr (3, [.ref a_se, .ref a_rd, .ref a_li, .ref a_ls, .int t_count])), (a_bb, .inl (K 0, 512, .inl bb)), (a_rd, .inr (5, [.ref a_bb, .int o.2.1, .int rd_limit, .int o.2.2.1]))] ++ (List.range 16).map (fun k9 => (a_en k9, .inr (0, [.int (en_isFrame k9), .int (en_begins k9), .int (o.2.2.2.1 k9), .int (en_ends k9), .int (en_common k9), .int (en_code k9), .int (en_data k9), .int (en_returnRegister k9), .int (o.2.2.2.2.1 k9), .int (o.2.2.2.2.2 k9)])))) := by
  refine Ct.ofG (by decide) (Nat.le_of_ble_eq_true rfl) ?_
  refine g_L (L' := [(0, .ref a_t), (1, .ref (a_en j1))]) rfl ?_
  unfold f_La_frameFault at h
  refine g_aload_n d_La_frameFault_0 rfl ?_
  refine gf_La_15 0 rfl (v := .ref a_rd) rfl d_La_frameFault_1 ?_
  refine gf_La_71 2 rfl (v := .int rd_at) rfl d_La_frameFault_4 ?_
  refine g_istore_n (L' := [(2, .int rd_at), (0, .ref a_t), (1, .ref (a_en j1))]) d_La_frameFault_7 (by decide) rfl ?_
  refine g_aload_n d_La_frameFault_8 rfl ?_
  refine g_aload_n d_La_frameFault_9 rfl ?_
  refine gf_La_15 0 rfl (v := .ref a_rd) rfl d_La_frameFault_10 ?_
  refine g_iconst (v := 4) d_La_frameFault_13 (by decide) ?_
  obtain ⟨q14, hq14, h⟩ := it_b h
  refine g_callV (ci := 5) (q := (xR_Rd, xF_Rd, 4)) (As := [.int 4]) (rest := [.ref (a_en j1)]) (st2 := [.int q14.1, .ref (a_en j1)]) (ws2 := ([(a_t, .inr (3, [.ref a_se, .ref a_rd, .ref a_li, .ref a_ls, .int t_count])), (a_bb, .inl (K 0, 512, .inl bb)), (a_rd, .inr (5, [.ref a_bb, .int q14.2.1, .int rd_limit, .int q14.2.2]))] ++ (List.range 16).map (fun k9 => (a_en k9, .inr (0, [.int (en_isFrame k9), .int (en_begins k9), .int (en_instructions k9), .int (en_ends k9), .int (en_common k9), .int (en_code k9), .int (en_data k9), .int (en_returnRegister k9), .int (en_first k9), .int (en_range k9)]))))) (c_Rd_unsigned l D K a_rd a_bb rd_at rd_limit rd_broken bb 4 q14 hq14) (cs_La_63 rfl rfl ⟨Nat.le_of_ble_eq_true rfl, Nat.le_of_ble_eq_true rfl⟩) rfl 2 rfl (by refine gOver.fr (gOver.mk2 [2, 1] [none, some 1, some 0] (by decide) (by decide) ?_ ?_ ?_) <;> rfl) (Nat.le_of_ble_eq_true rfl) ⟨Nat.le_of_ble_eq_true rfl, Nat.le_of_ble_eq_true rfl⟩ d_La_frameFault_14 rfl rfl ?_
  refine pf_La_111 (3 + j1) (gPl_at hj1) (v := .int q14.1) rfl rfl (Nat.le_of_ble_eq_true rfl) (ws' := ([(a_t, .inr (3, [.ref a_se, .ref a_rd, .ref a_li, .ref a_ls, .int t_count])), (a_bb, .inl (K 0, 512, .inl bb)), (a_rd, .inr (5, [.ref a_bb, .int q14.2.1, .int rd_limit, .int q14.2.2]))] ++ (List.range 16).map (fun k9 => (a_en k9, .inr (0, [.int (en_isFrame k9), .int (en_begins k9), .int (en_instructions k9), .int (en_ends k9), .int (en_common k9), .int (en_code k9), .int (en_data k9), .int (en_returnRegister k9), .int ((upd en_first j1 q14.1) k9), .int (en_range k9)]))))) (gPl_set hj1 (by simp only [pk_us]; try rfl) (fun k9 hk9 => by simp only [pk_un hk9])) d_La_frameFault_17 ?_
  refine g_aload_n d_La_frameFault_20 rfl ?_
  refine gf_La_15 0 rfl (v := .ref a_rd) rfl d_La_frameFault_21 ?_
  refine gf_La_67 2 rfl (v := .int q14.2.2) rfl d_La_frameFault_24 ?_
  refine g_if_ne (tgt := 37) d_La_frameFault_27 (by decide) (fun hc => ?_) (fun hc => ?_)
  · replace h := it_f hc h
    refine g_iload_n d_La_frameFault_37 rfl ?_
    obtain rfl := Option.some.inj h
    exact g_iret rfl d_La_frameFault_38
  · replace h := it_t hc h
    refine g_aload_n d_La_frameFault_30 rfl ?_
    refine gf_La_111 (3 + j1) (gPl_at hj1) (v := .int ((upd en_first j1 q14.1) j1)) rfl d_La_frameFault_31 ?_
    refine g_if_ge (tgt := 39) d_La_frameFault_34 (by decide) (fun hc => ?_) (fun hc => ?_)
    · replace h := it_t hc h
      refine g_aload_n d_La_frameFault_39 rfl ?_
      refine gf_La_15 0 rfl (v := .ref a_rd) rfl d_La_frameFault_40 ?_
      refine gf_La_71 2 rfl (v := .int q14.2.1) rfl d_La_frameFault_43 ?_
      refine g_istore_n (L' := [(2, .int q14.2.1), (0, .ref a_t), (1, .ref (a_en j1))]) d_La_frameFault_46 (by decide) rfl ?_
      refine g_aload_n d_La_frameFault_47 rfl ?_
      refine g_aload_n d_La_frameFault_48 rfl ?_
      refine gf_La_15 0 rfl (v := .ref a_rd) rfl d_La_frameFault_49 ?_
      refine g_iconst (v := 4) d_La_frameFault_52 (by decide) ?_
      obtain ⟨q53, hq53, h⟩ := it_b h
      refine g_callV (ci := 5) (q := (xR_Rd, xF_Rd, 4)) (As := [.int 4]) (rest := [.ref (a_en j1)]) (st2 := [.int q53.1, .ref (a_en j1)]) (ws2 := ([(a_t, .inr (3, [.ref a_se, .ref a_rd, .ref a_li, .ref a_ls, .int t_count])), (a_bb, .inl (K 0, 512, .inl bb)), (a_rd, .inr (5, [.ref a_bb, .int q53.2.1, .int rd_limit, .int q53.2.2]))] ++ (List.range 16).map (fun k9 => (a_en k9, .inr (0, [.int (en_isFrame k9), .int (en_begins k9), .int (en_instructions k9), .int (en_ends k9), .int (en_common k9), .int (en_code k9), .int (en_data k9), .int (en_returnRegister k9), .int ((upd en_first j1 q14.1) k9), .int (en_range k9)]))))) (c_Rd_unsigned l D K a_rd a_bb q14.2.1 rd_limit q14.2.2 bb 4 q53 hq53) (cs_La_63 rfl rfl ⟨Nat.le_of_ble_eq_true rfl, Nat.le_of_ble_eq_true rfl⟩) rfl 2 rfl (by refine gOver.fr (gOver.mk2 [2, 1] [none, some 1, some 0] (by decide) (by decide) ?_ ?_ ?_) <;> rfl) (Nat.le_of_ble_eq_true rfl) ⟨Nat.le_of_ble_eq_true rfl, Nat.le_of_ble_eq_true rfl⟩ d_La_frameFault_53 rfl rfl ?_
      refine pf_La_114 (3 + j1) (gPl_at hj1) (v := .int q53.1) rfl rfl (Nat.le_of_ble_eq_true rfl) (ws' := ([(a_t, .inr (3, [.ref a_se, .ref a_rd, .ref a_li, .ref a_ls, .int t_count])), (a_bb, .inl (K 0, 512, .inl bb)), (a_rd, .inr (5, [.ref a_bb, .int q53.2.1, .int rd_limit, .int q53.2.2]))] ++ (List.range 16).map (fun k9 => (a_en k9, .inr (0, [.int (en_isFrame k9), .int (en_begins k9), .int (en_instructions k9), .int (en_ends k9), .int (en_common k9), .int (en_code k9), .int (en_data k9), .int (en_returnRegister k9), .int ((upd en_first j1 q14.1) k9), .int ((upd en_range j1 q53.1) k9)]))))) (gPl_set hj1 (by simp only [pk_us]; try rfl) (fun k9 hk9 => by simp only [pk_un hk9])) d_La_frameFault_56 ?_
      refine g_aload_n d_La_frameFault_59 rfl ?_
      refine gf_La_15 0 rfl (v := .ref a_rd) rfl d_La_frameFault_60 ?_
      refine gf_La_67 2 rfl (v := .int q53.2.2) rfl d_La_frameFault_63 ?_
      refine g_if_ne (tgt := 76) d_La_frameFault_66 (by decide) (fun hc => ?_) (fun hc => ?_)
      · replace h := it_f hc h
        refine g_iload_n d_La_frameFault_76 rfl ?_
        obtain rfl := Option.some.inj h
        exact g_iret rfl d_La_frameFault_77
      · replace h := it_t hc h
        refine g_aload_n d_La_frameFault_69 rfl ?_
        refine gf_La_114 (3 + j1) (gPl_at hj1) (v := .int ((upd en_range j1 q53.1) j1)) rfl d_La_frameFault_70 ?_
        refine g_if_ge (tgt := 78) d_La_frameFault_73 (by decide) (fun hc => ?_) (fun hc => ?_)
        · replace h := it_t hc h
          refine g_aload_n d_La_frameFault_78 rfl ?_
          refine g_aload_n d_La_frameFault_79 rfl ?_
          refine gf_La_15 0 rfl (v := .ref a_rd) rfl d_La_frameFault_80 ?_
          refine gf_La_71 2 rfl (v := .int q53.2.1) rfl d_La_frameFault_83 ?_
          refine pf_La_108 (3 + j1) (gPl_at hj1) (v := .int q53.2.1) rfl rfl (Nat.le_of_ble_eq_true rfl) (ws' := ([(a_t, .inr (3, [.ref a_se, .ref a_rd, .ref a_li, .ref a_ls, .int t_count])), (a_bb, .inl (K 0, 512, .inl bb)), (a_rd, .inr (5, [.ref a_bb, .int q53.2.1, .int rd_limit, .int q53.2.2]))] ++ (List.range 16).map (fun k9 => (a_en k9, .inr (0, [.int (en_isFrame k9), .int (en_begins k9), .int ((upd en_instructions j1 q53.2.1) k9), .int (en_ends k9), .int (en_common k9), .int (en_code k9), .int (en_data k9), .int (en_returnRegister k9), .int ((upd en_first j1 q14.1) k9), .int ((upd en_range j1 q53.1) k9)]))))) (gPl_set hj1 (by simp only [pk_us]; try rfl) (fun k9 hk9 => by simp only [pk_un hk9])) d_La_frameFault_86 ?_
          refine g_iconst (v := (-1)) d_La_frameFault_89 (by decide) ?_
          obtain rfl := Option.some.inj h
          exact g_iret rfl d_La_frameFault_90
        · replace h := it_f hc h
          refine g_iload_n d_La_frameFault_76 rfl ?_
          obtain rfl := Option.some.inj h
          exact g_iret rfl d_La_frameFault_77
    · replace h := it_f hc h
      refine g_iload_n d_La_frameFault_37 rfl ?_
      obtain rfl := Option.some.inj h
      exact g_iret rfl d_La_frameFault_38
def f_La_headFault_127 (t_count : Int32) (se_size : Int32) (bb : Nat → Int32) (rd_at : Int32) (rd_limit : Int32) (rd_broken : Int32) (en_isFrame : Nat → Int32) (en_begins : Nat → Int32) (en_instructions : Nat → Int32) (en_ends : Nat → Int32) (en_common : Nat → Int32) (en_code : Nat → Int32) (en_data : Nat → Int32) (en_returnRegister : Nat → Int32) (en_first : Nat → Int32) (en_range : Nat → Int32) (x1 : Nat) (x2 : Int32) (x3 : Int32) (x4 : Int32) (x5 : Int32) (s0 : Int32) (s1 : Nat) : Option (Int32 × Int32 × Int32 × Int32 × (Nat → Int32) × (Nat → Int32) × (Nat → Int32) × (Nat → Int32) × (Nat → Int32) × (Nat → Int32) × (Nat → Int32) × (Nat → Int32) × (Nat → Int32) × (Nat → Int32)) := if ¬ (s0 = 0 ∨ s0 = 1) then none else if ((upd en_isFrame s1 s0) x1) = 0 then (((f_La_commonFault bb rd_at rd_limit rd_broken en_instructions en_code en_data en_returnRegister x1).bind fun q139 => some (q139.1, q139.2.1, rd_limit, q139.2.2.1, upd en_isFrame s1 s0, en_begins, q139.2.2.2.1, en_ends, en_common, q139.2.2.2.2.1, q139.2.2.2.2.2.1, q139.2.2.2.2.2.2, en_first, en_range))) else (((f_La_commonAt t_count (upd en_isFrame s1 s0) en_begins x5).bind fun q146 => if q146 = (-1) then (some (x4, rd_at, rd_limit, rd_broken, upd en_isFrame s1 s0, en_begins, en_instructions, en_ends, en_common, en_code, en_data, en_returnRegister, en_first, en_range)) else (((f_La_frameFault bb rd_at rd_limit rd_broken en_instructions en_first en_range x1).bind fun q168 => some (q168.1, q168.2.1, rd_limit, q168.2.2.1, upd en_isFrame s1 s0, en_begins, q168.2.2.2.1, en_ends, upd en_common x1 q146, en_code, en_data, en_returnRegister, q168.2.2.2.2.1, q168.2.2.2.2.2)))))
set_option maxRecDepth 100000 in
set_option maxHeartbeats 4000000 in
theorem j_La_headFault_127 (l : Launch) (D : va_G) (K : Nat → ClassId) (a_t a_se a_bb a_rd a_li a_ls : Nat) (a_en : Nat → Nat) {av : List Value} {w0 : va_W} (t_count : Int32) (se_size : Int32) (bb : Nat → Int32) (rd_at : Int32) (rd_limit : Int32) (rd_broken : Int32) (en_isFrame : Nat → Int32) (en_begins : Nat → Int32) (en_instructions : Nat → Int32) (en_ends : Nat → Int32) (en_common : Nat → Int32) (en_code : Nat → Int32) (en_data : Nat → Int32) (en_returnRegister : Nat → Int32) (en_first : Nat → Int32) (en_range : Nat → Int32) (x1 : Nat) (x2 : Int32) (x3 : Int32) (x4 : Int32) (x5 : Int32) (s0 : Int32) (s1 : Nat) (hx1 : x1 < 16) (hs1 : s1 < 16) (o : Int32 × Int32 × Int32 × Int32 × (Nat → Int32) × (Nat → Int32) × (Nat → Int32) × (Nat → Int32) × (Nat → Int32) × (Nat → Int32) × (Nat → Int32) × (Nat → Int32) × (Nat → Int32) × (Nat → Int32)) (h : f_La_headFault_127 t_count se_size bb rd_at rd_limit rd_broken en_isFrame en_begins en_instructions en_ends en_common en_code en_data en_returnRegister en_first en_range x1 x2 x3 x4 x5 s0 s1 = some o) : Gm l y_La_headFault b_La_headFault 7 (some .int) { frames := 3, cells := 0, slots := 0, locals := 68 } D vwCl (xTy K) av w0 (CtF D vwCl av w0 (some (.int o.1)) ([(a_t, .inr (3, [.ref a_se, .ref a_rd, .ref a_li, .ref a_ls, .int t_count])), (a_se, .inr (8, [.ref a_bb, .int se_size])), (a_bb, .inl (K 0, 512, .inl bb)), (a_rd, .inr (5, [.ref a_bb, .int o.2.1, .int o.2.2.1, .int o.2.2.2.1])), (a_ls, .inl (K 4, 16, .inr (.inr (.inr (.inr (fun k9 => some (a_en k9)))))))] ++ (List.range 16).map (fun k9 => (a_en k9, .inr (0, [.int (o.2.2.2.2.1 k9), .int (o.2.2.2.2.2.1 k9), .int (o.2.2.2.2.2.2.1 k9), .int (o.2.2.2.2.2.2.2.1 k9), .int (o.2.2.2.2.2.2.2.2.1 k9), .int (o.2.2.2.2.2.2.2.2.2.1 k9), .int (o.2.2.2.2.2.2.2.2.2.2.1 k9), .int (o.2.2.2.2.2.2.2.2.2.2.2.1 k9), .int (o.2.2.2.2.2.2.2.2.2.2.2.2.1 k9), .int (o.2.2.2.2.2.2.2.2.2.2.2.2.2 k9)]))))) 0 0 ([(a_t, .inr (3, [.ref a_se, .ref a_rd, .ref a_li, .ref a_ls, .int t_count])), (a_se, .inr (8, [.ref a_bb, .int se_size])), (a_bb, .inl (K 0, 512, .inl bb)), (a_rd, .inr (5, [.ref a_bb, .int rd_at, .int rd_limit, .int rd_broken])), (a_ls, .inl (K 4, 16, .inr (.inr (.inr (.inr (fun k9 => some (a_en k9)))))))] ++ (List.range 16).map (fun k9 => (a_en k9, .inr (0, [.int (en_isFrame k9), .int (en_begins k9), .int (en_instructions k9), .int (en_ends k9), .int (en_common k9), .int (en_code k9), .int (en_data k9), .int (en_returnRegister k9), .int (en_first k9), .int (en_range k9)])))) [(0, .ref a_t), (1, .ref (a_en x1)), (2, .int x2), (3, .int x3), (4, .int x4), (5, .int x5)] 127 [.int s0, .ref (a_en s1)] := by
  unfold f_La_headFault_127 at h
  obtain ⟨hb127, h⟩ := it_n h
  refine pf_La_77 (5 + s1) (gPl_at hs1) (v := .int s0) (g01n hb127) (g01f hb127) (Nat.le_of_ble_eq_true rfl) (ws' := ([(a_t, .inr (3, [.ref a_se, .ref a_rd, .ref a_li, .ref a_ls, .int t_count])), (a_se, .inr (8, [.ref a_bb, .int se_size])), (a_bb, .inl (K 0, 512, .inl bb)), (a_rd, .inr (5, [.ref a_bb, .int rd_at, .int rd_limit, .int rd_broken])), (a_ls, .inl (K 4, 16, .inr (.inr (.inr (.inr (fun k9 => some (a_en k9)))))))] ++ (List.range 16).map (fun k9 => (a_en k9, .inr (0, [.int ((upd en_isFrame s1 s0) k9), .int (en_begins k9), .int (en_instructions k9), .int (en_ends k9), .int (en_common k9), .int (en_code k9), .int (en_data k9), .int (en_returnRegister k9), .int (en_first k9), .int (en_range k9)]))))) (gPl_set hs1 (by simp only [pk_us]; try rfl) (fun k9 hk9 => by simp only [pk_un hk9])) d_La_headFault_127 ?_
  refine g_aload_n d_La_headFault_130 rfl ?_
  refine gf_La_77 (5 + x1) (gPl_at hx1) (v := .int ((upd en_isFrame s1 s0) x1)) rfl d_La_headFault_131 ?_
  refine g_if_ne (tgt := 143) d_La_headFault_134 (by decide) (fun hc => ?_) (fun hc => ?_)
  · replace h := it_f hc h
    refine g_aload_n d_La_headFault_143 rfl ?_
    refine g_iload d_La_headFault_144 rfl ?_
    obtain ⟨q146, hq146, h⟩ := it_b h
    refine g_callV (ci := 3) (q := (xR_La, xF_La, 5)) (As := [.int x5]) (rest := []) (st2 := [.int q146]) (ws2 := ([(a_t, .inr (3, [.ref a_se, .ref a_rd, .ref a_li, .ref a_ls, .int t_count])), (a_se, .inr (8, [.ref a_bb, .int se_size])), (a_bb, .inl (K 0, 512, .inl bb)), (a_rd, .inr (5, [.ref a_bb, .int rd_at, .int rd_limit, .int rd_broken])), (a_ls, .inl (K 4, 16, .inr (.inr (.inr (.inr (fun k9 => some (a_en k9)))))))] ++ (List.range 16).map (fun k9 => (a_en k9, .inr (0, [.int ((upd en_isFrame s1 s0) k9), .int (en_begins k9), .int (en_instructions k9), .int (en_ends k9), .int (en_common k9), .int (en_code k9), .int (en_data k9), .int (en_returnRegister k9), .int (en_first k9), .int (en_range k9)]))))) (c_La_commonAt l D K a_t a_se a_rd a_li a_ls a_en t_count (upd en_isFrame s1 s0) en_begins en_instructions en_ends en_common en_code en_data en_returnRegister en_first en_range x5 q146 hq146) (cs_La_83 rfl rfl ⟨Nat.le_of_ble_eq_true rfl, Nat.le_of_ble_eq_true rfl⟩) rfl 0 rfl (by refine gOver.plG (gOver.mk2 [0, 4] [some 0, none, none, none, some 1] (by decide) (by decide) ?_ ?_ ?_) (fun _ => ?_) <;> rfl) (Nat.le_of_ble_eq_true rfl) ⟨Nat.le_of_ble_eq_true rfl, Nat.le_of_ble_eq_true rfl⟩ d_La_headFault_146 rfl rfl ?_
    refine g_istore (L' := [(6, .int q146), (0, .ref a_t), (1, .ref (a_en x1)), (2, .int x2), (3, .int x3), (4, .int x4), (5, .int x5)]) d_La_headFault_149 (by decide) rfl ?_
    refine g_iload d_La_headFault_151 rfl ?_
    refine g_iconst (v := (-1)) d_La_headFault_153 (by decide) ?_
    refine g_icmp_ne (tgt := 160) d_La_headFault_154 (by decide) (fun hc => ?_) (fun hc => ?_)
    · replace h := it_f hc h
      refine g_aload_n d_La_headFault_160 rfl ?_
      refine g_iload d_La_headFault_161 rfl ?_
      refine pf_La_86 (5 + x1) (gPl_at hx1) (v := .int q146) rfl rfl (Nat.le_of_ble_eq_true rfl) (ws' := ([(a_t, .inr (3, [.ref a_se, .ref a_rd, .ref a_li, .ref a_ls, .int t_count])), (a_se, .inr (8, [.ref a_bb, .int se_size])), (a_bb, .inl (K 0, 512, .inl bb)), (a_rd, .inr (5, [.ref a_bb, .int rd_at, .int rd_limit, .int rd_broken])), (a_ls, .inl (K 4, 16, .inr (.inr (.inr (.inr (fun k9 => some (a_en k9)))))))] ++ (List.range 16).map (fun k9 => (a_en k9, .inr (0, [.int ((upd en_isFrame s1 s0) k9), .int (en_begins k9), .int (en_instructions k9), .int (en_ends k9), .int ((upd en_common x1 q146) k9), .int (en_code k9), .int (en_data k9), .int (en_returnRegister k9), .int (en_first k9), .int (en_range k9)]))))) (gPl_set hx1 (by simp only [pk_us]; try rfl) (fun k9 hk9 => by simp only [pk_un hk9])) d_La_headFault_163 ?_
      refine g_aload_n d_La_headFault_166 rfl ?_
      refine g_aload_n d_La_headFault_167 rfl ?_
      obtain ⟨q168, hq168, h⟩ := it_b h
      refine g_callV (ci := 3) (q := (xR_La, xF_La, 5)) (As := [.ref (a_en x1)]) (rest := []) (st2 := [.int q168.1]) (ws2 := ([(a_t, .inr (3, [.ref a_se, .ref a_rd, .ref a_li, .ref a_ls, .int t_count])), (a_se, .inr (8, [.ref a_bb, .int se_size])), (a_bb, .inl (K 0, 512, .inl bb)), (a_rd, .inr (5, [.ref a_bb, .int q168.2.1, .int rd_limit, .int q168.2.2.1])), (a_ls, .inl (K 4, 16, .inr (.inr (.inr (.inr (fun k9 => some (a_en k9)))))))] ++ (List.range 16).map (fun k9 => (a_en k9, .inr (0, [.int ((upd en_isFrame s1 s0) k9), .int (en_begins k9), .int (q168.2.2.2.1 k9), .int (en_ends k9), .int ((upd en_common x1 q146) k9), .int (en_code k9), .int (en_data k9), .int (en_returnRegister k9), .int (q168.2.2.2.2.1 k9), .int (q168.2.2.2.2.2 k9)]))))) (c_La_frameFault l D K a_t a_se a_bb a_rd a_li a_ls a_en t_count bb rd_at rd_limit rd_broken (upd en_isFrame s1 s0) en_begins en_instructions en_ends (upd en_common x1 q146) en_code en_data en_returnRegister en_first en_range x1 hx1 q168 hq168) (cs_La_89 rfl rfl ⟨Nat.le_of_ble_eq_true rfl, Nat.le_of_ble_eq_true rfl⟩) rfl 0 rfl (by refine gOver.plG (gOver.mk2 [0, 2, 3] [some 0, none, some 1, some 2, none] (by decide) (by decide) ?_ ?_ ?_) (fun _ => ?_) <;> rfl) (Nat.le_of_ble_eq_true rfl) ⟨Nat.le_of_ble_eq_true rfl, Nat.le_of_ble_eq_true rfl⟩ d_La_headFault_168 rfl rfl ?_
      obtain rfl := Option.some.inj h
      exact g_iret rfl d_La_headFault_171
    · replace h := it_t hc h
      refine g_iload d_La_headFault_157 rfl ?_
      obtain rfl := Option.some.inj h
      exact g_iret rfl d_La_headFault_159
  · replace h := it_t hc h
    refine g_aload_n d_La_headFault_137 rfl ?_
    refine g_aload_n d_La_headFault_138 rfl ?_
    obtain ⟨q139, hq139, h⟩ := it_b h
    refine g_callV (ci := 3) (q := (xR_La, xF_La, 5)) (As := [.ref (a_en x1)]) (rest := []) (st2 := [.int q139.1]) (ws2 := ([(a_t, .inr (3, [.ref a_se, .ref a_rd, .ref a_li, .ref a_ls, .int t_count])), (a_se, .inr (8, [.ref a_bb, .int se_size])), (a_bb, .inl (K 0, 512, .inl bb)), (a_rd, .inr (5, [.ref a_bb, .int q139.2.1, .int rd_limit, .int q139.2.2.1])), (a_ls, .inl (K 4, 16, .inr (.inr (.inr (.inr (fun k9 => some (a_en k9)))))))] ++ (List.range 16).map (fun k9 => (a_en k9, .inr (0, [.int ((upd en_isFrame s1 s0) k9), .int (en_begins k9), .int (q139.2.2.2.1 k9), .int (en_ends k9), .int (en_common k9), .int (q139.2.2.2.2.1 k9), .int (q139.2.2.2.2.2.1 k9), .int (q139.2.2.2.2.2.2 k9), .int (en_first k9), .int (en_range k9)]))))) (c_La_commonFault l D K a_t a_se a_bb a_rd a_li a_ls a_en t_count bb rd_at rd_limit rd_broken (upd en_isFrame s1 s0) en_begins en_instructions en_ends en_common en_code en_data en_returnRegister en_first en_range x1 hx1 q139 hq139) (cs_La_80 rfl rfl ⟨Nat.le_of_ble_eq_true rfl, Nat.le_of_ble_eq_true rfl⟩) rfl 0 rfl (by refine gOver.plG (gOver.mk2 [0, 2, 3] [some 0, none, some 1, some 2, none] (by decide) (by decide) ?_ ?_ ?_) (fun _ => ?_) <;> rfl) (Nat.le_of_ble_eq_true rfl) ⟨Nat.le_of_ble_eq_true rfl, Nat.le_of_ble_eq_true rfl⟩ d_La_headFault_139 rfl rfl ?_
    obtain rfl := Option.some.inj h
    exact g_iret rfl d_La_headFault_142
def f_La_headFault (t_count : Int32) (se_size : Int32) (bb : Nat → Int32) (rd_at : Int32) (rd_limit : Int32) (rd_broken : Int32) (en_isFrame : Nat → Int32) (en_begins : Nat → Int32) (en_instructions : Nat → Int32) (en_ends : Nat → Int32) (en_common : Nat → Int32) (en_code : Nat → Int32) (en_data : Nat → Int32) (en_returnRegister : Nat → Int32) (en_first : Nat → Int32) (en_range : Nat → Int32) (j1 : Nat) (b1 : Int32) : Option (Int32 × Int32 × Int32 × Int32 × (Nat → Int32) × (Nat → Int32) × (Nat → Int32) × (Nat → Int32) × (Nat → Int32) × (Nat → Int32) × (Nat → Int32) × (Nat → Int32) × (Nat → Int32) × (Nat → Int32)) := ((f_Rd_open rd_at rd_limit rd_broken b1 se_size).bind fun q12 => ((f_Rd_unsigned q12.1 q12.2.1 q12.2.2 bb 4).bind fun q20 => if q20.2.2 = 0 then (if q20.1 < 4 then (some (b1, q20.2.1, q12.2.1, q20.2.2, en_isFrame, en_begins, en_instructions, en_ends, en_common, en_code, en_data, en_returnRegister, en_first, en_range)) else (if q20.1 ≤ (se_size - q20.2.1) then (((f_Rd_open q20.2.1 q12.2.1 q20.2.2 q20.2.1 ((upd en_ends j1 (q20.2.1 + q20.1)) j1)).bind fun q93 => ((f_Rd_unsigned q93.1 q93.2.1 q93.2.2 bb 4).bind fun q110 => if q110.1 = (-1) then (f_La_headFault_127 t_count se_size bb q110.2.1 q93.2.1 q110.2.2 en_isFrame (upd en_begins j1 b1) en_instructions (upd en_ends j1 (q20.2.1 + q20.1)) en_common en_code en_data en_returnRegister en_first en_range j1 b1 q20.1 q93.1 q110.1 0 j1) else (f_La_headFault_127 t_count se_size bb q110.2.1 q93.2.1 q110.2.2 en_isFrame (upd en_begins j1 b1) en_instructions (upd en_ends j1 (q20.2.1 + q20.1)) en_common en_code en_data en_returnRegister en_first en_range j1 b1 q20.1 q93.1 q110.1 1 j1)))) else (some (b1, q20.2.1, q12.2.1, q20.2.2, en_isFrame, en_begins, en_instructions, en_ends, en_common, en_code, en_data, en_returnRegister, en_first, en_range)))) else (some (b1, q20.2.1, q12.2.1, q20.2.2, en_isFrame, en_begins, en_instructions, en_ends, en_common, en_code, en_data, en_returnRegister, en_first, en_range))))
set_option maxRecDepth 100000 in
set_option maxHeartbeats 4000000 in
theorem c_La_headFault (l : Launch) (D : va_G) (K : Nat → ClassId) (a_t a_se a_bb a_rd a_li a_ls : Nat) (a_en : Nat → Nat) (t_count : Int32) (se_size : Int32) (bb : Nat → Int32) (rd_at : Int32) (rd_limit : Int32) (rd_broken : Int32) (en_isFrame : Nat → Int32) (en_begins : Nat → Int32) (en_instructions : Nat → Int32) (en_ends : Nat → Int32) (en_common : Nat → Int32) (en_code : Nat → Int32) (en_data : Nat → Int32) (en_returnRegister : Nat → Int32) (en_first : Nat → Int32) (en_range : Nat → Int32) (j1 : Nat) (b1 : Int32) (hj1 : j1 < 16) (o : Int32 × Int32 × Int32 × Int32 × (Nat → Int32) × (Nat → Int32) × (Nat → Int32) × (Nat → Int32) × (Nat → Int32) × (Nat → Int32) × (Nat → Int32) × (Nat → Int32) × (Nat → Int32) × (Nat → Int32)) (h : f_La_headFault t_count se_size bb rd_at rd_limit rd_broken en_isFrame en_begins en_instructions en_ends en_common en_code en_data en_returnRegister en_first en_range j1 b1 = some o) : Ct l y_La_headFault b_La_headFault 7 (some .int) { frames := 3, cells := 0, slots := 0, locals := 68 } D vwCl (xTy K) [.ref a_t, .ref (a_en j1), .int b1] ([(a_t, .inr (3, [.ref a_se, .ref a_rd, .ref a_li, .ref a_ls, .int t_count])), (a_se, .inr (8, [.ref a_bb, .int se_size])), (a_bb, .inl (K 0, 512, .inl bb)), (a_rd, .inr (5, [.ref a_bb, .int rd_at, .int rd_limit, .int rd_broken])), (a_ls, .inl (K 4, 16, .inr (.inr (.inr (.inr (fun k9 => some (a_en k9)))))))] ++ (List.range 16).map (fun k9 => (a_en k9, .inr (0, [.int (en_isFrame k9), .int (en_begins k9), .int (en_instructions k9), .int (en_ends k9), .int (en_common k9), .int (en_code k9), .int (en_data k9), .int (en_returnRegister k9), .int (en_first k9), .int (en_range k9)])))) (some (.int o.1)) ([(a_t, .inr (3, [.ref a_se, .ref a_rd, .ref a_li, .ref a_ls, .int t_count])), (a_se, .inr (8, [.ref a_bb, .int se_size])), (a_bb, .inl (K 0, 512, .inl bb)), (a_rd, .inr (5, [.ref a_bb, .int o.2.1, .int o.2.2.1, .int o.2.2.2.1])), (a_ls, .inl (K 4, 16, .inr (.inr (.inr (.inr (fun k9 => some (a_en k9)))))))] ++ (List.range 16).map (fun k9 => (a_en k9, .inr (0, [.int (o.2.2.2.2.1 k9), .int (o.2.2.2.2.2.1 k9), .int (o.2.2.2.2.2.2.1 k9), .int (o.2.2.2.2.2.2.2.1 k9), .int (o.2.2.2.2.2.2.2.2.1 k9), .int (o.2.2.2.2.2.2.2.2.2.1 k9), .int (o.2.2.2.2.2.2.2.2.2.2.1 k9), .int (o.2.2.2.2.2.2.2.2.2.2.2.1 k9), .int (o.2.2.2.2.2.2.2.2.2.2.2.2.1 k9), .int (o.2.2.2.2.2.2.2.2.2.2.2.2.2 k9)])))) := by
  refine Ct.ofG (by decide) (Nat.le_of_ble_eq_true rfl) ?_
  refine g_L (L' := [(0, .ref a_t), (1, .ref (a_en j1)), (2, .int b1)]) rfl ?_
  unfold f_La_headFault at h
  refine g_aload_n d_La_headFault_0 rfl ?_
  refine gf_La_15 0 rfl (v := .ref a_rd) rfl d_La_headFault_1 ?_
  refine g_iload_n d_La_headFault_4 rfl ?_
  refine g_aload_n d_La_headFault_5 rfl ?_
  refine gf_La_9 0 rfl (v := .ref a_se) rfl d_La_headFault_6 ?_
  refine gf_La_37 1 rfl (v := .int se_size) rfl d_La_headFault_9 ?_
  obtain ⟨q12, hq12, h⟩ := it_b h
  refine g_callV (ci := 5) (q := (xR_Rd, xF_Rd, 4)) (As := [.int b1, .int se_size]) (rest := []) (st2 := []) (ws2 := ([(a_t, .inr (3, [.ref a_se, .ref a_rd, .ref a_li, .ref a_ls, .int t_count])), (a_se, .inr (8, [.ref a_bb, .int se_size])), (a_bb, .inl (K 0, 512, .inl bb)), (a_rd, .inr (5, [.ref a_bb, .int q12.1, .int q12.2.1, .int q12.2.2])), (a_ls, .inl (K 4, 16, .inr (.inr (.inr (.inr (fun k9 => some (a_en k9)))))))] ++ (List.range 16).map (fun k9 => (a_en k9, .inr (0, [.int (en_isFrame k9), .int (en_begins k9), .int (en_instructions k9), .int (en_ends k9), .int (en_common k9), .int (en_code k9), .int (en_data k9), .int (en_returnRegister k9), .int (en_first k9), .int (en_range k9)]))))) (c_Rd_open l D K a_rd a_bb rd_at rd_limit rd_broken b1 se_size q12 hq12) (cs_La_57 rfl rfl ⟨Nat.le_of_ble_eq_true rfl, Nat.le_of_ble_eq_true rfl⟩) rfl 3 rfl (by refine gOver.fr (gOver.mk2 [3] [none, none, none, some 0, none] (by decide) (by decide) ?_ ?_ ?_) <;> rfl) (Nat.le_of_ble_eq_true rfl) ⟨Nat.le_of_ble_eq_true rfl, Nat.le_of_ble_eq_true rfl⟩ d_La_headFault_12 rfl rfl ?_
  refine g_aload_n d_La_headFault_15 rfl ?_
  refine gf_La_15 0 rfl (v := .ref a_rd) rfl d_La_headFault_16 ?_
  refine g_iconst (v := 4) d_La_headFault_19 (by decide) ?_
  obtain ⟨q20, hq20, h⟩ := it_b h
  refine g_callV (ci := 5) (q := (xR_Rd, xF_Rd, 4)) (As := [.int 4]) (rest := []) (st2 := [.int q20.1]) (ws2 := ([(a_t, .inr (3, [.ref a_se, .ref a_rd, .ref a_li, .ref a_ls, .int t_count])), (a_se, .inr (8, [.ref a_bb, .int se_size])), (a_bb, .inl (K 0, 512, .inl bb)), (a_rd, .inr (5, [.ref a_bb, .int q20.2.1, .int q12.2.1, .int q20.2.2])), (a_ls, .inl (K 4, 16, .inr (.inr (.inr (.inr (fun k9 => some (a_en k9)))))))] ++ (List.range 16).map (fun k9 => (a_en k9, .inr (0, [.int (en_isFrame k9), .int (en_begins k9), .int (en_instructions k9), .int (en_ends k9), .int (en_common k9), .int (en_code k9), .int (en_data k9), .int (en_returnRegister k9), .int (en_first k9), .int (en_range k9)]))))) (c_Rd_unsigned l D K a_rd a_bb q12.1 q12.2.1 q12.2.2 bb 4 q20 hq20) (cs_La_63 rfl rfl ⟨Nat.le_of_ble_eq_true rfl, Nat.le_of_ble_eq_true rfl⟩) rfl 3 rfl (by refine gOver.fr (gOver.mk2 [3, 2] [none, none, some 1, some 0, none] (by decide) (by decide) ?_ ?_ ?_) <;> rfl) (Nat.le_of_ble_eq_true rfl) ⟨Nat.le_of_ble_eq_true rfl, Nat.le_of_ble_eq_true rfl⟩ d_La_headFault_20 rfl rfl ?_
  refine g_istore_n (L' := [(3, .int q20.1), (0, .ref a_t), (1, .ref (a_en j1)), (2, .int b1)]) d_La_headFault_23 (by decide) rfl ?_
  refine g_aload_n d_La_headFault_24 rfl ?_
  refine gf_La_15 0 rfl (v := .ref a_rd) rfl d_La_headFault_25 ?_
  refine gf_La_67 3 rfl (v := .int q20.2.2) rfl d_La_headFault_28 ?_
  refine g_if_ne (tgt := 58) d_La_headFault_31 (by decide) (fun hc => ?_) (fun hc => ?_)
  · replace h := it_f hc h
    refine g_iload_n d_La_headFault_58 rfl ?_
    obtain rfl := Option.some.inj h
    exact g_iret rfl d_La_headFault_59
  · replace h := it_t hc h
    refine g_iload_n d_La_headFault_34 rfl ?_
    refine g_iconst (v := 4) d_La_headFault_35 (by decide) ?_
    refine g_icmp_lt (tgt := 58) d_La_headFault_36 (by decide) (fun hc => ?_) (fun hc => ?_)
    · replace h := it_t hc h
      refine g_iload_n d_La_headFault_58 rfl ?_
      obtain rfl := Option.some.inj h
      exact g_iret rfl d_La_headFault_59
    · replace h := it_f hc h
      refine g_iload_n d_La_headFault_39 rfl ?_
      refine g_aload_n d_La_headFault_40 rfl ?_
      refine gf_La_9 0 rfl (v := .ref a_se) rfl d_La_headFault_41 ?_
      refine gf_La_37 1 rfl (v := .int se_size) rfl d_La_headFault_44 ?_
      refine g_aload_n d_La_headFault_47 rfl ?_
      refine gf_La_15 0 rfl (v := .ref a_rd) rfl d_La_headFault_48 ?_
      refine gf_La_71 3 rfl (v := .int q20.2.1) rfl d_La_headFault_51 ?_
      refine g_isub d_La_headFault_54 ?_
      refine g_icmp_le (tgt := 60) d_La_headFault_55 (by decide) (fun hc => ?_) (fun hc => ?_)
      · replace h := it_t hc h
        refine g_aload_n d_La_headFault_60 rfl ?_
        refine g_iload_n d_La_headFault_61 rfl ?_
        refine pf_La_74 (5 + j1) (gPl_at hj1) (v := .int b1) rfl rfl (Nat.le_of_ble_eq_true rfl) (ws' := ([(a_t, .inr (3, [.ref a_se, .ref a_rd, .ref a_li, .ref a_ls, .int t_count])), (a_se, .inr (8, [.ref a_bb, .int se_size])), (a_bb, .inl (K 0, 512, .inl bb)), (a_rd, .inr (5, [.ref a_bb, .int q20.2.1, .int q12.2.1, .int q20.2.2])), (a_ls, .inl (K 4, 16, .inr (.inr (.inr (.inr (fun k9 => some (a_en k9)))))))] ++ (List.range 16).map (fun k9 => (a_en k9, .inr (0, [.int (en_isFrame k9), .int ((upd en_begins j1 b1) k9), .int (en_instructions k9), .int (en_ends k9), .int (en_common k9), .int (en_code k9), .int (en_data k9), .int (en_returnRegister k9), .int (en_first k9), .int (en_range k9)]))))) (gPl_set hj1 (by simp only [pk_us]; try rfl) (fun k9 hk9 => by simp only [pk_un hk9])) d_La_headFault_62 ?_
        refine g_aload_n d_La_headFault_65 rfl ?_
        refine g_aload_n d_La_headFault_66 rfl ?_
        refine gf_La_15 0 rfl (v := .ref a_rd) rfl d_La_headFault_67 ?_
        refine gf_La_71 3 rfl (v := .int q20.2.1) rfl d_La_headFault_70 ?_
        refine g_iload_n d_La_headFault_73 rfl ?_
        refine g_iadd d_La_headFault_74 ?_
        refine pf_La_50 (5 + j1) (gPl_at hj1) (v := .int (q20.2.1 + q20.1)) rfl rfl (Nat.le_of_ble_eq_true rfl) (ws' := ([(a_t, .inr (3, [.ref a_se, .ref a_rd, .ref a_li, .ref a_ls, .int t_count])), (a_se, .inr (8, [.ref a_bb, .int se_size])), (a_bb, .inl (K 0, 512, .inl bb)), (a_rd, .inr (5, [.ref a_bb, .int q20.2.1, .int q12.2.1, .int q20.2.2])), (a_ls, .inl (K 4, 16, .inr (.inr (.inr (.inr (fun k9 => some (a_en k9)))))))] ++ (List.range 16).map (fun k9 => (a_en k9, .inr (0, [.int (en_isFrame k9), .int ((upd en_begins j1 b1) k9), .int (en_instructions k9), .int ((upd en_ends j1 (q20.2.1 + q20.1)) k9), .int (en_common k9), .int (en_code k9), .int (en_data k9), .int (en_returnRegister k9), .int (en_first k9), .int (en_range k9)]))))) (gPl_set hj1 (by simp only [pk_us]; try rfl) (fun k9 hk9 => by simp only [pk_un hk9])) d_La_headFault_75 ?_
        refine g_aload_n d_La_headFault_78 rfl ?_
        refine gf_La_15 0 rfl (v := .ref a_rd) rfl d_La_headFault_79 ?_
        refine g_aload_n d_La_headFault_82 rfl ?_
        refine gf_La_15 0 rfl (v := .ref a_rd) rfl d_La_headFault_83 ?_
        refine gf_La_71 3 rfl (v := .int q20.2.1) rfl d_La_headFault_86 ?_
        refine g_aload_n d_La_headFault_89 rfl ?_
        refine gf_La_50 (5 + j1) (gPl_at hj1) (v := .int ((upd en_ends j1 (q20.2.1 + q20.1)) j1)) rfl d_La_headFault_90 ?_
        obtain ⟨q93, hq93, h⟩ := it_b h
        refine g_callV (ci := 5) (q := (xR_Rd, xF_Rd, 4)) (As := [.int q20.2.1, .int ((upd en_ends j1 (q20.2.1 + q20.1)) j1)]) (rest := []) (st2 := []) (ws2 := ([(a_t, .inr (3, [.ref a_se, .ref a_rd, .ref a_li, .ref a_ls, .int t_count])), (a_se, .inr (8, [.ref a_bb, .int se_size])), (a_bb, .inl (K 0, 512, .inl bb)), (a_rd, .inr (5, [.ref a_bb, .int q93.1, .int q93.2.1, .int q93.2.2])), (a_ls, .inl (K 4, 16, .inr (.inr (.inr (.inr (fun k9 => some (a_en k9)))))))] ++ (List.range 16).map (fun k9 => (a_en k9, .inr (0, [.int (en_isFrame k9), .int ((upd en_begins j1 b1) k9), .int (en_instructions k9), .int ((upd en_ends j1 (q20.2.1 + q20.1)) k9), .int (en_common k9), .int (en_code k9), .int (en_data k9), .int (en_returnRegister k9), .int (en_first k9), .int (en_range k9)]))))) (c_Rd_open l D K a_rd a_bb q20.2.1 q12.2.1 q20.2.2 q20.2.1 ((upd en_ends j1 (q20.2.1 + q20.1)) j1) q93 hq93) (cs_La_57 rfl rfl ⟨Nat.le_of_ble_eq_true rfl, Nat.le_of_ble_eq_true rfl⟩) rfl 3 rfl (by refine gOver.fr (gOver.mk2 [3] [none, none, none, some 0, none] (by decide) (by decide) ?_ ?_ ?_) <;> rfl) (Nat.le_of_ble_eq_true rfl) ⟨Nat.le_of_ble_eq_true rfl, Nat.le_of_ble_eq_true rfl⟩ d_La_headFault_93 rfl rfl ?_
        refine g_aload_n d_La_headFault_96 rfl ?_
        refine gf_La_15 0 rfl (v := .ref a_rd) rfl d_La_headFault_97 ?_
        refine gf_La_71 3 rfl (v := .int q93.1) rfl d_La_headFault_100 ?_
        refine g_istore (L' := [(4, .int q93.1), (3, .int q20.1), (0, .ref a_t), (1, .ref (a_en j1)), (2, .int b1)]) d_La_headFault_103 (by decide) rfl ?_
        refine g_aload_n d_La_headFault_105 rfl ?_
        refine gf_La_15 0 rfl (v := .ref a_rd) rfl d_La_headFault_106 ?_
        refine g_iconst (v := 4) d_La_headFault_109 (by decide) ?_
        obtain ⟨q110, hq110, h⟩ := it_b h
        refine g_callV (ci := 5) (q := (xR_Rd, xF_Rd, 4)) (As := [.int 4]) (rest := []) (st2 := [.int q110.1]) (ws2 := ([(a_t, .inr (3, [.ref a_se, .ref a_rd, .ref a_li, .ref a_ls, .int t_count])), (a_se, .inr (8, [.ref a_bb, .int se_size])), (a_bb, .inl (K 0, 512, .inl bb)), (a_rd, .inr (5, [.ref a_bb, .int q110.2.1, .int q93.2.1, .int q110.2.2])), (a_ls, .inl (K 4, 16, .inr (.inr (.inr (.inr (fun k9 => some (a_en k9)))))))] ++ (List.range 16).map (fun k9 => (a_en k9, .inr (0, [.int (en_isFrame k9), .int ((upd en_begins j1 b1) k9), .int (en_instructions k9), .int ((upd en_ends j1 (q20.2.1 + q20.1)) k9), .int (en_common k9), .int (en_code k9), .int (en_data k9), .int (en_returnRegister k9), .int (en_first k9), .int (en_range k9)]))))) (c_Rd_unsigned l D K a_rd a_bb q93.1 q93.2.1 q93.2.2 bb 4 q110 hq110) (cs_La_63 rfl rfl ⟨Nat.le_of_ble_eq_true rfl, Nat.le_of_ble_eq_true rfl⟩) rfl 3 rfl (by refine gOver.fr (gOver.mk2 [3, 2] [none, none, some 1, some 0, none] (by decide) (by decide) ?_ ?_ ?_) <;> rfl) (Nat.le_of_ble_eq_true rfl) ⟨Nat.le_of_ble_eq_true rfl, Nat.le_of_ble_eq_true rfl⟩ d_La_headFault_110 rfl rfl ?_
        refine g_istore (L' := [(5, .int q110.1), (4, .int q93.1), (3, .int q20.1), (0, .ref a_t), (1, .ref (a_en j1)), (2, .int b1)]) d_La_headFault_113 (by decide) rfl ?_
        refine g_aload_n d_La_headFault_115 rfl ?_
        refine g_iload d_La_headFault_116 rfl ?_
        refine g_iconst (v := (-1)) d_La_headFault_118 (by decide) ?_
        refine g_icmp_eq (tgt := 126) d_La_headFault_119 (by decide) (fun hc => ?_) (fun hc => ?_)
        · replace h := it_t hc h
          refine g_iconst (v := 0) d_La_headFault_126 (by decide) ?_
          refine g_lsub (L' := [(0, .ref a_t), (1, .ref (a_en j1)), (2, .int b1), (3, .int q20.1), (4, .int q93.1), (5, .int q110.1)]) [3, 4, 5, 2, 1, 0] rfl ?_
          exact j_La_headFault_127 l D K a_t a_se a_bb a_rd a_li a_ls a_en t_count se_size bb q110.2.1 q93.2.1 q110.2.2 en_isFrame (upd en_begins j1 b1) en_instructions (upd en_ends j1 (q20.2.1 + q20.1)) en_common en_code en_data en_returnRegister en_first en_range j1 b1 q20.1 q93.1 q110.1 0 j1 hj1 hj1 o h
        · replace h := it_f hc h
          refine g_iconst (v := 1) d_La_headFault_122 (by decide) ?_
          refine g_goto (tgt := 127) d_La_headFault_123 (by decide) ?_
          refine g_lsub (L' := [(0, .ref a_t), (1, .ref (a_en j1)), (2, .int b1), (3, .int q20.1), (4, .int q93.1), (5, .int q110.1)]) [3, 4, 5, 2, 1, 0] rfl ?_
          exact j_La_headFault_127 l D K a_t a_se a_bb a_rd a_li a_ls a_en t_count se_size bb q110.2.1 q93.2.1 q110.2.2 en_isFrame (upd en_begins j1 b1) en_instructions (upd en_ends j1 (q20.2.1 + q20.1)) en_common en_code en_data en_returnRegister en_first en_range j1 b1 q20.1 q93.1 q110.1 1 j1 hj1 hj1 o h
      · replace h := it_f hc h
        refine g_iload_n d_La_headFault_58 rfl ?_
        obtain rfl := Option.some.inj h
        exact g_iret rfl d_La_headFault_59
def f_La_instructionsFault_19 : Nat → (Nat → Int32) → Int32 → Int32 → Int32 → Int32 → Int32 → Int32 → Int32 → (Nat → Int32) → (Nat → Int32) → (Nat → Int32) → Nat → Int32 → Int32 → Option (Int32 × Int32 × Int32 × Int32 × Int32 × Int32 × Int32 × Int32)
  | 0, _, _, _, _, _, _, _, _, _, _, _, _, _, _ => none
  | n + 1, bb, rd_at, rd_limit, rd_broken, li_operation, li_register, li_number, li_bytesFrom, en_isFrame, en_instructions, en_ends, x1, x2, x3 => if 512 ≤ x3 then (some ((-1), rd_at, rd_limit, rd_broken, li_operation, li_register, li_number, li_bytesFrom)) else (if rd_limit ≤ rd_at then (some ((-1), rd_at, rd_limit, rd_broken, li_operation, li_register, li_number, li_bytesFrom)) else (((f_In_readFrom li_operation li_register li_number li_bytesFrom rd_at rd_limit rd_broken bb).bind fun q60 => if q60.1 = 0 then (some (rd_at, q60.2.2.2.2.2.1, rd_limit, q60.2.2.2.2.2.2, q60.2.1, q60.2.2.1, q60.2.2.2.1, q60.2.2.2.2.1)) else (if (en_isFrame x1) = 0 then (((f_In_mayStandInCommon q60.2.1).bind fun q80 => if q80 = 0 then (some (rd_at, q60.2.2.2.2.2.1, rd_limit, q60.2.2.2.2.2.2, q60.2.1, q60.2.2.1, q60.2.2.2.1, q60.2.2.2.2.1)) else (if q60.2.1 = 10 then (if (x2 + 1) < 0 then (some (rd_at, q60.2.2.2.2.2.1, rd_limit, q60.2.2.2.2.2.2, q60.2.1, q60.2.2.1, q60.2.2.2.1, q60.2.2.2.2.1)) else (if (x2 + 1) ≤ 4 then (f_La_instructionsFault_19 n bb q60.2.2.2.2.2.1 rd_limit q60.2.2.2.2.2.2 q60.2.1 q60.2.2.1 q60.2.2.2.1 q60.2.2.2.2.1 en_isFrame en_instructions en_ends x1 (x2 + 1) (x3 + 1)) else (some (rd_at, q60.2.2.2.2.2.1, rd_limit, q60.2.2.2.2.2.2, q60.2.1, q60.2.2.1, q60.2.2.2.1, q60.2.2.2.2.1)))) else (if q60.2.1 = 11 then (if (x2 + (-1)) < 0 then (some (rd_at, q60.2.2.2.2.2.1, rd_limit, q60.2.2.2.2.2.2, q60.2.1, q60.2.2.1, q60.2.2.2.1, q60.2.2.2.2.1)) else (if (x2 + (-1)) ≤ 4 then (f_La_instructionsFault_19 n bb q60.2.2.2.2.2.1 rd_limit q60.2.2.2.2.2.2 q60.2.1 q60.2.2.1 q60.2.2.2.1 q60.2.2.2.2.1 en_isFrame en_instructions en_ends x1 (x2 + (-1)) (x3 + 1)) else (some (rd_at, q60.2.2.2.2.2.1, rd_limit, q60.2.2.2.2.2.2, q60.2.1, q60.2.2.1, q60.2.2.2.1, q60.2.2.2.2.1)))) else (if x2 < 0 then (some (rd_at, q60.2.2.2.2.2.1, rd_limit, q60.2.2.2.2.2.2, q60.2.1, q60.2.2.1, q60.2.2.2.1, q60.2.2.2.2.1)) else (if x2 ≤ 4 then (f_La_instructionsFault_19 n bb q60.2.2.2.2.2.1 rd_limit q60.2.2.2.2.2.2 q60.2.1 q60.2.2.1 q60.2.2.2.1 q60.2.2.2.2.1 en_isFrame en_instructions en_ends x1 x2 (x3 + 1)) else (some (rd_at, q60.2.2.2.2.2.1, rd_limit, q60.2.2.2.2.2.2, q60.2.1, q60.2.2.1, q60.2.2.2.1, q60.2.2.2.2.1)))))))) else (if q60.2.1 = 10 then (if (x2 + 1) < 0 then (some (rd_at, q60.2.2.2.2.2.1, rd_limit, q60.2.2.2.2.2.2, q60.2.1, q60.2.2.1, q60.2.2.2.1, q60.2.2.2.2.1)) else (if (x2 + 1) ≤ 4 then (f_La_instructionsFault_19 n bb q60.2.2.2.2.2.1 rd_limit q60.2.2.2.2.2.2 q60.2.1 q60.2.2.1 q60.2.2.2.1 q60.2.2.2.2.1 en_isFrame en_instructions en_ends x1 (x2 + 1) (x3 + 1)) else (some (rd_at, q60.2.2.2.2.2.1, rd_limit, q60.2.2.2.2.2.2, q60.2.1, q60.2.2.1, q60.2.2.2.1, q60.2.2.2.2.1)))) else (if q60.2.1 = 11 then (if (x2 + (-1)) < 0 then (some (rd_at, q60.2.2.2.2.2.1, rd_limit, q60.2.2.2.2.2.2, q60.2.1, q60.2.2.1, q60.2.2.2.1, q60.2.2.2.2.1)) else (if (x2 + (-1)) ≤ 4 then (f_La_instructionsFault_19 n bb q60.2.2.2.2.2.1 rd_limit q60.2.2.2.2.2.2 q60.2.1 q60.2.2.1 q60.2.2.2.1 q60.2.2.2.2.1 en_isFrame en_instructions en_ends x1 (x2 + (-1)) (x3 + 1)) else (some (rd_at, q60.2.2.2.2.2.1, rd_limit, q60.2.2.2.2.2.2, q60.2.1, q60.2.2.1, q60.2.2.2.1, q60.2.2.2.2.1)))) else (if x2 < 0 then (some (rd_at, q60.2.2.2.2.2.1, rd_limit, q60.2.2.2.2.2.2, q60.2.1, q60.2.2.1, q60.2.2.2.1, q60.2.2.2.2.1)) else (if x2 ≤ 4 then (f_La_instructionsFault_19 n bb q60.2.2.2.2.2.1 rd_limit q60.2.2.2.2.2.2 q60.2.1 q60.2.2.1 q60.2.2.2.1 q60.2.2.2.2.1 en_isFrame en_instructions en_ends x1 x2 (x3 + 1)) else (some (rd_at, q60.2.2.2.2.2.1, rd_limit, q60.2.2.2.2.2.2, q60.2.1, q60.2.2.1, q60.2.2.2.1, q60.2.2.2.2.1))))))))))
set_option maxRecDepth 100000 in
set_option maxHeartbeats 4000000 in
theorem j_La_instructionsFault_19 (l : Launch) (D : va_G) (K : Nat → ClassId) (a_t a_se a_bb a_rd a_li a_ls : Nat) (a_en : Nat → Nat) {av : List Value} {w0 : va_W} (n : Nat) (t_count : Int32) (bb : Nat → Int32) (rd_at : Int32) (rd_limit : Int32) (rd_broken : Int32) (li_operation : Int32) (li_register : Int32) (li_number : Int32) (li_bytesFrom : Int32) (en_isFrame : Nat → Int32) (en_begins : Nat → Int32) (en_instructions : Nat → Int32) (en_ends : Nat → Int32) (en_common : Nat → Int32) (en_code : Nat → Int32) (en_data : Nat → Int32) (en_returnRegister : Nat → Int32) (en_first : Nat → Int32) (en_range : Nat → Int32) (x1 : Nat) (x2 : Int32) (x3 : Int32) (hx1 : x1 < 16) (o : Int32 × Int32 × Int32 × Int32 × Int32 × Int32 × Int32 × Int32) (h : f_La_instructionsFault_19 n bb rd_at rd_limit rd_broken li_operation li_register li_number li_bytesFrom en_isFrame en_instructions en_ends x1 x2 x3 = some o) : Gm l y_La_instructionsFault b_La_instructionsFault 5 (some .int) { frames := 4, cells := 0, slots := 0, locals := 90 } D vwCl (xTy K) av w0 (CtF D vwCl av w0 (some (.int o.1)) ([(a_t, .inr (3, [.ref a_se, .ref a_rd, .ref a_li, .ref a_ls, .int t_count])), (a_bb, .inl (K 0, 512, .inl bb)), (a_rd, .inr (5, [.ref a_bb, .int o.2.1, .int o.2.2.1, .int o.2.2.2.1])), (a_li, .inr (2, [.int o.2.2.2.2.1, .int o.2.2.2.2.2.1, .int o.2.2.2.2.2.2.1, .int o.2.2.2.2.2.2.2]))] ++ (List.range 16).map (fun k9 => (a_en k9, .inr (0, [.int (en_isFrame k9), .int (en_begins k9), .int (en_instructions k9), .int (en_ends k9), .int (en_common k9), .int (en_code k9), .int (en_data k9), .int (en_returnRegister k9), .int (en_first k9), .int (en_range k9)]))))) 0 0 ([(a_t, .inr (3, [.ref a_se, .ref a_rd, .ref a_li, .ref a_ls, .int t_count])), (a_bb, .inl (K 0, 512, .inl bb)), (a_rd, .inr (5, [.ref a_bb, .int rd_at, .int rd_limit, .int rd_broken])), (a_li, .inr (2, [.int li_operation, .int li_register, .int li_number, .int li_bytesFrom]))] ++ (List.range 16).map (fun k9 => (a_en k9, .inr (0, [.int (en_isFrame k9), .int (en_begins k9), .int (en_instructions k9), .int (en_ends k9), .int (en_common k9), .int (en_code k9), .int (en_data k9), .int (en_returnRegister k9), .int (en_first k9), .int (en_range k9)])))) [(0, .ref a_t), (1, .ref (a_en x1)), (2, .int x2), (3, .int x3)] 19 [] := by
  induction n generalizing t_count bb rd_at rd_limit rd_broken li_operation li_register li_number li_bytesFrom en_isFrame en_begins en_instructions en_ends en_common en_code en_data en_returnRegister en_first en_range x1 x2 x3 with
  | zero => exact absurd h (by rw [f_La_instructionsFault_19]; exact fun z => nomatch z)
  | succ n ih =>
    rw [f_La_instructionsFault_19] at h
    refine g_iload_n d_La_instructionsFault_19 rfl ?_
    refine g_sipush (v := 512) d_La_instructionsFault_20 (by decide) ?_
    refine g_icmp_ge (tgt := 140) d_La_instructionsFault_23 (by decide) (fun hc => ?_) (fun hc => ?_)
    · replace h := it_t hc h
      refine g_iconst (v := (-1)) d_La_instructionsFault_140 (by decide) ?_
      obtain rfl := Option.some.inj h
      exact g_iret rfl d_La_instructionsFault_141
    · replace h := it_f hc h
      refine g_aload_n d_La_instructionsFault_26 rfl ?_
      refine gf_La_15 0 rfl (v := .ref a_rd) rfl d_La_instructionsFault_27 ?_
      refine gf_La_71 2 rfl (v := .int rd_at) rfl d_La_instructionsFault_30 ?_
      refine g_aload_n d_La_instructionsFault_33 rfl ?_
      refine gf_La_15 0 rfl (v := .ref a_rd) rfl d_La_instructionsFault_34 ?_
      refine gf_La_117 2 rfl (v := .int rd_limit) rfl d_La_instructionsFault_37 ?_
      refine g_icmp_ge (tgt := 140) d_La_instructionsFault_40 (by decide) (fun hc => ?_) (fun hc => ?_)
      · replace h := it_t hc h
        refine g_iconst (v := (-1)) d_La_instructionsFault_140 (by decide) ?_
        obtain rfl := Option.some.inj h
        exact g_iret rfl d_La_instructionsFault_141
      · replace h := it_f hc h
        refine g_aload_n d_La_instructionsFault_43 rfl ?_
        refine gf_La_15 0 rfl (v := .ref a_rd) rfl d_La_instructionsFault_44 ?_
        refine gf_La_71 2 rfl (v := .int rd_at) rfl d_La_instructionsFault_47 ?_
        refine g_istore (L' := [(4, .int rd_at), (0, .ref a_t), (1, .ref (a_en x1)), (2, .int x2), (3, .int x3)]) d_La_instructionsFault_50 (by decide) rfl ?_
        refine g_aload_n d_La_instructionsFault_52 rfl ?_
        refine gf_La_22 0 rfl (v := .ref a_li) rfl d_La_instructionsFault_53 ?_
        refine g_aload_n d_La_instructionsFault_56 rfl ?_
        refine gf_La_15 0 rfl (v := .ref a_rd) rfl d_La_instructionsFault_57 ?_
        obtain ⟨q60, hq60, h⟩ := it_b h
        refine g_callV (ci := 2) (q := (xR_In, xF_In, 4)) (As := [.ref a_rd]) (rest := []) (st2 := [.int q60.1]) (ws2 := ([(a_t, .inr (3, [.ref a_se, .ref a_rd, .ref a_li, .ref a_ls, .int t_count])), (a_bb, .inl (K 0, 512, .inl bb)), (a_rd, .inr (5, [.ref a_bb, .int q60.2.2.2.2.2.1, .int rd_limit, .int q60.2.2.2.2.2.2])), (a_li, .inr (2, [.int q60.2.1, .int q60.2.2.1, .int q60.2.2.2.1, .int q60.2.2.2.2.1]))] ++ (List.range 16).map (fun k9 => (a_en k9, .inr (0, [.int (en_isFrame k9), .int (en_begins k9), .int (en_instructions k9), .int (en_ends k9), .int (en_common k9), .int (en_code k9), .int (en_data k9), .int (en_returnRegister k9), .int (en_first k9), .int (en_range k9)]))))) (c_In_readFrom l D K a_li a_rd a_bb li_operation li_register li_number li_bytesFrom rd_at rd_limit rd_broken bb q60 hq60) (cs_La_120 rfl rfl ⟨Nat.le_of_ble_eq_true rfl, Nat.le_of_ble_eq_true rfl⟩) rfl 3 rfl (by refine gOver.fr (gOver.mk2 [3, 2, 1] [none, some 2, some 1, some 0] (by decide) (by decide) ?_ ?_ ?_) <;> rfl) (Nat.le_of_ble_eq_true rfl) ⟨Nat.le_of_ble_eq_true rfl, Nat.le_of_ble_eq_true rfl⟩ d_La_instructionsFault_60 rfl rfl ?_
        refine g_if_ne (tgt := 69) d_La_instructionsFault_63 (by decide) (fun hc => ?_) (fun hc => ?_)
        · replace h := it_f hc h
          refine g_aload_n d_La_instructionsFault_69 rfl ?_
          refine gf_La_77 (4 + x1) (gPl_at hx1) (v := .int (en_isFrame x1)) rfl d_La_instructionsFault_70 ?_
          refine g_if_ne (tgt := 89) d_La_instructionsFault_73 (by decide) (fun hc => ?_) (fun hc => ?_)
          · replace h := it_f hc h
            refine g_aload_n d_La_instructionsFault_89 rfl ?_
            refine gf_La_22 0 rfl (v := .ref a_li) rfl d_La_instructionsFault_90 ?_
            refine gf_La_128 3 rfl (v := .int q60.2.1) rfl d_La_instructionsFault_93 ?_
            refine g_bipush (v := 10) d_La_instructionsFault_96 (by decide) ?_
            refine g_icmp_ne (tgt := 107) d_La_instructionsFault_98 (by decide) (fun hc => ?_) (fun hc => ?_)
            · replace h := it_f hc h
              refine g_aload_n d_La_instructionsFault_107 rfl ?_
              refine gf_La_22 0 rfl (v := .ref a_li) rfl d_La_instructionsFault_108 ?_
              refine gf_La_128 3 rfl (v := .int q60.2.1) rfl d_La_instructionsFault_111 ?_
              refine g_bipush (v := 11) d_La_instructionsFault_114 (by decide) ?_
              refine g_icmp_ne (tgt := 122) d_La_instructionsFault_116 (by decide) (fun hc => ?_) (fun hc => ?_)
              · replace h := it_f hc h
                refine g_iload_n d_La_instructionsFault_122 rfl ?_
                refine g_if_lt (tgt := 131) d_La_instructionsFault_123 (by decide) (fun hc => ?_) (fun hc => ?_)
                · replace h := it_t hc h
                  refine g_iload d_La_instructionsFault_131 rfl ?_
                  obtain rfl := Option.some.inj h
                  exact g_iret rfl d_La_instructionsFault_133
                · replace h := it_f hc h
                  refine g_iload_n d_La_instructionsFault_126 rfl ?_
                  refine g_iconst (v := 4) d_La_instructionsFault_127 (by decide) ?_
                  refine g_icmp_le (tgt := 134) d_La_instructionsFault_128 (by decide) (fun hc => ?_) (fun hc => ?_)
                  · replace h := it_t hc h
                    refine g_iinc (k := 4) (v := x3 + 1) (L' := [(3, .int (x3 + 1)), (4, .int rd_at), (0, .ref a_t), (1, .ref (a_en x1)), (2, .int x2)]) d_La_instructionsFault_134 rfl (by first | rfl | decide) (by decide) rfl ?_
                    refine g_goto (tgt := 19) d_La_instructionsFault_137 (by decide) ?_
                    refine g_lsub (L' := [(0, .ref a_t), (1, .ref (a_en x1)), (2, .int x2), (3, .int (x3 + 1))]) [2, 3, 4, 0] rfl ?_
                    exact ih t_count bb q60.2.2.2.2.2.1 rd_limit q60.2.2.2.2.2.2 q60.2.1 q60.2.2.1 q60.2.2.2.1 q60.2.2.2.2.1 en_isFrame en_begins en_instructions en_ends en_common en_code en_data en_returnRegister en_first en_range x1 x2 (x3 + 1) hx1 h
                  · replace h := it_f hc h
                    refine g_iload d_La_instructionsFault_131 rfl ?_
                    obtain rfl := Option.some.inj h
                    exact g_iret rfl d_La_instructionsFault_133
              · replace h := it_t hc h
                refine g_iinc (k := 3) (v := x2 + (-1)) (L' := [(2, .int (x2 + (-1))), (4, .int rd_at), (0, .ref a_t), (1, .ref (a_en x1)), (3, .int x3)]) d_La_instructionsFault_119 rfl (by first | rfl | decide) (by decide) rfl ?_
                refine g_iload_n d_La_instructionsFault_122 rfl ?_
                refine g_if_lt (tgt := 131) d_La_instructionsFault_123 (by decide) (fun hc => ?_) (fun hc => ?_)
                · replace h := it_t hc h
                  refine g_iload d_La_instructionsFault_131 rfl ?_
                  obtain rfl := Option.some.inj h
                  exact g_iret rfl d_La_instructionsFault_133
                · replace h := it_f hc h
                  refine g_iload_n d_La_instructionsFault_126 rfl ?_
                  refine g_iconst (v := 4) d_La_instructionsFault_127 (by decide) ?_
                  refine g_icmp_le (tgt := 134) d_La_instructionsFault_128 (by decide) (fun hc => ?_) (fun hc => ?_)
                  · replace h := it_t hc h
                    refine g_iinc (k := 4) (v := x3 + 1) (L' := [(3, .int (x3 + 1)), (2, .int (x2 + (-1))), (4, .int rd_at), (0, .ref a_t), (1, .ref (a_en x1))]) d_La_instructionsFault_134 rfl (by first | rfl | decide) (by decide) rfl ?_
                    refine g_goto (tgt := 19) d_La_instructionsFault_137 (by decide) ?_
                    refine g_lsub (L' := [(0, .ref a_t), (1, .ref (a_en x1)), (2, .int (x2 + (-1))), (3, .int (x3 + 1))]) [3, 4, 1, 0] rfl ?_
                    exact ih t_count bb q60.2.2.2.2.2.1 rd_limit q60.2.2.2.2.2.2 q60.2.1 q60.2.2.1 q60.2.2.2.1 q60.2.2.2.2.1 en_isFrame en_begins en_instructions en_ends en_common en_code en_data en_returnRegister en_first en_range x1 (x2 + (-1)) (x3 + 1) hx1 h
                  · replace h := it_f hc h
                    refine g_iload d_La_instructionsFault_131 rfl ?_
                    obtain rfl := Option.some.inj h
                    exact g_iret rfl d_La_instructionsFault_133
            · replace h := it_t hc h
              refine g_iinc (k := 3) (v := x2 + 1) (L' := [(2, .int (x2 + 1)), (4, .int rd_at), (0, .ref a_t), (1, .ref (a_en x1)), (3, .int x3)]) d_La_instructionsFault_101 rfl (by first | rfl | decide) (by decide) rfl ?_
              refine g_goto (tgt := 122) d_La_instructionsFault_104 (by decide) ?_
              refine g_iload_n d_La_instructionsFault_122 rfl ?_
              refine g_if_lt (tgt := 131) d_La_instructionsFault_123 (by decide) (fun hc => ?_) (fun hc => ?_)
              · replace h := it_t hc h
                refine g_iload d_La_instructionsFault_131 rfl ?_
                obtain rfl := Option.some.inj h
                exact g_iret rfl d_La_instructionsFault_133
              · replace h := it_f hc h
                refine g_iload_n d_La_instructionsFault_126 rfl ?_
                refine g_iconst (v := 4) d_La_instructionsFault_127 (by decide) ?_
                refine g_icmp_le (tgt := 134) d_La_instructionsFault_128 (by decide) (fun hc => ?_) (fun hc => ?_)
                · replace h := it_t hc h
                  refine g_iinc (k := 4) (v := x3 + 1) (L' := [(3, .int (x3 + 1)), (2, .int (x2 + 1)), (4, .int rd_at), (0, .ref a_t), (1, .ref (a_en x1))]) d_La_instructionsFault_134 rfl (by first | rfl | decide) (by decide) rfl ?_
                  refine g_goto (tgt := 19) d_La_instructionsFault_137 (by decide) ?_
                  refine g_lsub (L' := [(0, .ref a_t), (1, .ref (a_en x1)), (2, .int (x2 + 1)), (3, .int (x3 + 1))]) [3, 4, 1, 0] rfl ?_
                  exact ih t_count bb q60.2.2.2.2.2.1 rd_limit q60.2.2.2.2.2.2 q60.2.1 q60.2.2.1 q60.2.2.2.1 q60.2.2.2.2.1 en_isFrame en_begins en_instructions en_ends en_common en_code en_data en_returnRegister en_first en_range x1 (x2 + 1) (x3 + 1) hx1 h
                · replace h := it_f hc h
                  refine g_iload d_La_instructionsFault_131 rfl ?_
                  obtain rfl := Option.some.inj h
                  exact g_iret rfl d_La_instructionsFault_133
          · replace h := it_t hc h
            refine g_aload_n d_La_instructionsFault_76 rfl ?_
            refine gf_La_22 0 rfl (v := .ref a_li) rfl d_La_instructionsFault_77 ?_
            obtain ⟨q80, hq80, h⟩ := it_b h
            refine g_callV (ci := 2) (q := (xR_In, xF_In, 4)) (As := []) (rest := []) (st2 := [.int q80]) (ws2 := ([(a_t, .inr (3, [.ref a_se, .ref a_rd, .ref a_li, .ref a_ls, .int t_count])), (a_bb, .inl (K 0, 512, .inl bb)), (a_rd, .inr (5, [.ref a_bb, .int q60.2.2.2.2.2.1, .int rd_limit, .int q60.2.2.2.2.2.2])), (a_li, .inr (2, [.int q60.2.1, .int q60.2.2.1, .int q60.2.2.2.1, .int q60.2.2.2.2.1]))] ++ (List.range 16).map (fun k9 => (a_en k9, .inr (0, [.int (en_isFrame k9), .int (en_begins k9), .int (en_instructions k9), .int (en_ends k9), .int (en_common k9), .int (en_code k9), .int (en_data k9), .int (en_returnRegister k9), .int (en_first k9), .int (en_range k9)]))))) (c_In_mayStandInCommon l D K a_li q60.2.1 q60.2.2.1 q60.2.2.2.1 q60.2.2.2.2.1 q80 hq80) (cs_La_124 rfl rfl ⟨Nat.le_of_ble_eq_true rfl, Nat.le_of_ble_eq_true rfl⟩) rfl 3 rfl (gOver.rd [3] (by decide) rfl) (Nat.le_of_ble_eq_true rfl) ⟨Nat.le_of_ble_eq_true rfl, Nat.le_of_ble_eq_true rfl⟩ d_La_instructionsFault_80 rfl rfl ?_
            refine g_if_ne (tgt := 89) d_La_instructionsFault_83 (by decide) (fun hc => ?_) (fun hc => ?_)
            · replace h := it_f hc h
              refine g_aload_n d_La_instructionsFault_89 rfl ?_
              refine gf_La_22 0 rfl (v := .ref a_li) rfl d_La_instructionsFault_90 ?_
              refine gf_La_128 3 rfl (v := .int q60.2.1) rfl d_La_instructionsFault_93 ?_
              refine g_bipush (v := 10) d_La_instructionsFault_96 (by decide) ?_
              refine g_icmp_ne (tgt := 107) d_La_instructionsFault_98 (by decide) (fun hc => ?_) (fun hc => ?_)
              · replace h := it_f hc h
                refine g_aload_n d_La_instructionsFault_107 rfl ?_
                refine gf_La_22 0 rfl (v := .ref a_li) rfl d_La_instructionsFault_108 ?_
                refine gf_La_128 3 rfl (v := .int q60.2.1) rfl d_La_instructionsFault_111 ?_
                refine g_bipush (v := 11) d_La_instructionsFault_114 (by decide) ?_
                refine g_icmp_ne (tgt := 122) d_La_instructionsFault_116 (by decide) (fun hc => ?_) (fun hc => ?_)
                · replace h := it_f hc h
                  refine g_iload_n d_La_instructionsFault_122 rfl ?_
                  refine g_if_lt (tgt := 131) d_La_instructionsFault_123 (by decide) (fun hc => ?_) (fun hc => ?_)
                  · replace h := it_t hc h
                    refine g_iload d_La_instructionsFault_131 rfl ?_
                    obtain rfl := Option.some.inj h
                    exact g_iret rfl d_La_instructionsFault_133
                  · replace h := it_f hc h
                    refine g_iload_n d_La_instructionsFault_126 rfl ?_
                    refine g_iconst (v := 4) d_La_instructionsFault_127 (by decide) ?_
                    refine g_icmp_le (tgt := 134) d_La_instructionsFault_128 (by decide) (fun hc => ?_) (fun hc => ?_)
                    · replace h := it_t hc h
                      refine g_iinc (k := 4) (v := x3 + 1) (L' := [(3, .int (x3 + 1)), (4, .int rd_at), (0, .ref a_t), (1, .ref (a_en x1)), (2, .int x2)]) d_La_instructionsFault_134 rfl (by first | rfl | decide) (by decide) rfl ?_
                      refine g_goto (tgt := 19) d_La_instructionsFault_137 (by decide) ?_
                      refine g_lsub (L' := [(0, .ref a_t), (1, .ref (a_en x1)), (2, .int x2), (3, .int (x3 + 1))]) [2, 3, 4, 0] rfl ?_
                      exact ih t_count bb q60.2.2.2.2.2.1 rd_limit q60.2.2.2.2.2.2 q60.2.1 q60.2.2.1 q60.2.2.2.1 q60.2.2.2.2.1 en_isFrame en_begins en_instructions en_ends en_common en_code en_data en_returnRegister en_first en_range x1 x2 (x3 + 1) hx1 h
                    · replace h := it_f hc h
                      refine g_iload d_La_instructionsFault_131 rfl ?_
                      obtain rfl := Option.some.inj h
                      exact g_iret rfl d_La_instructionsFault_133
                · replace h := it_t hc h
                  refine g_iinc (k := 3) (v := x2 + (-1)) (L' := [(2, .int (x2 + (-1))), (4, .int rd_at), (0, .ref a_t), (1, .ref (a_en x1)), (3, .int x3)]) d_La_instructionsFault_119 rfl (by first | rfl | decide) (by decide) rfl ?_
                  refine g_iload_n d_La_instructionsFault_122 rfl ?_
                  refine g_if_lt (tgt := 131) d_La_instructionsFault_123 (by decide) (fun hc => ?_) (fun hc => ?_)
                  · replace h := it_t hc h
                    refine g_iload d_La_instructionsFault_131 rfl ?_
                    obtain rfl := Option.some.inj h
                    exact g_iret rfl d_La_instructionsFault_133
                  · replace h := it_f hc h
                    refine g_iload_n d_La_instructionsFault_126 rfl ?_
                    refine g_iconst (v := 4) d_La_instructionsFault_127 (by decide) ?_
                    refine g_icmp_le (tgt := 134) d_La_instructionsFault_128 (by decide) (fun hc => ?_) (fun hc => ?_)
                    · replace h := it_t hc h
                      refine g_iinc (k := 4) (v := x3 + 1) (L' := [(3, .int (x3 + 1)), (2, .int (x2 + (-1))), (4, .int rd_at), (0, .ref a_t), (1, .ref (a_en x1))]) d_La_instructionsFault_134 rfl (by first | rfl | decide) (by decide) rfl ?_
                      refine g_goto (tgt := 19) d_La_instructionsFault_137 (by decide) ?_
                      refine g_lsub (L' := [(0, .ref a_t), (1, .ref (a_en x1)), (2, .int (x2 + (-1))), (3, .int (x3 + 1))]) [3, 4, 1, 0] rfl ?_
                      exact ih t_count bb q60.2.2.2.2.2.1 rd_limit q60.2.2.2.2.2.2 q60.2.1 q60.2.2.1 q60.2.2.2.1 q60.2.2.2.2.1 en_isFrame en_begins en_instructions en_ends en_common en_code en_data en_returnRegister en_first en_range x1 (x2 + (-1)) (x3 + 1) hx1 h
                    · replace h := it_f hc h
                      refine g_iload d_La_instructionsFault_131 rfl ?_
                      obtain rfl := Option.some.inj h
                      exact g_iret rfl d_La_instructionsFault_133
              · replace h := it_t hc h
                refine g_iinc (k := 3) (v := x2 + 1) (L' := [(2, .int (x2 + 1)), (4, .int rd_at), (0, .ref a_t), (1, .ref (a_en x1)), (3, .int x3)]) d_La_instructionsFault_101 rfl (by first | rfl | decide) (by decide) rfl ?_
                refine g_goto (tgt := 122) d_La_instructionsFault_104 (by decide) ?_
                refine g_iload_n d_La_instructionsFault_122 rfl ?_
                refine g_if_lt (tgt := 131) d_La_instructionsFault_123 (by decide) (fun hc => ?_) (fun hc => ?_)
                · replace h := it_t hc h
                  refine g_iload d_La_instructionsFault_131 rfl ?_
                  obtain rfl := Option.some.inj h
                  exact g_iret rfl d_La_instructionsFault_133
                · replace h := it_f hc h
                  refine g_iload_n d_La_instructionsFault_126 rfl ?_
                  refine g_iconst (v := 4) d_La_instructionsFault_127 (by decide) ?_
                  refine g_icmp_le (tgt := 134) d_La_instructionsFault_128 (by decide) (fun hc => ?_) (fun hc => ?_)
                  · replace h := it_t hc h
                    refine g_iinc (k := 4) (v := x3 + 1) (L' := [(3, .int (x3 + 1)), (2, .int (x2 + 1)), (4, .int rd_at), (0, .ref a_t), (1, .ref (a_en x1))]) d_La_instructionsFault_134 rfl (by first | rfl | decide) (by decide) rfl ?_
                    refine g_goto (tgt := 19) d_La_instructionsFault_137 (by decide) ?_
                    refine g_lsub (L' := [(0, .ref a_t), (1, .ref (a_en x1)), (2, .int (x2 + 1)), (3, .int (x3 + 1))]) [3, 4, 1, 0] rfl ?_
                    exact ih t_count bb q60.2.2.2.2.2.1 rd_limit q60.2.2.2.2.2.2 q60.2.1 q60.2.2.1 q60.2.2.2.1 q60.2.2.2.2.1 en_isFrame en_begins en_instructions en_ends en_common en_code en_data en_returnRegister en_first en_range x1 (x2 + 1) (x3 + 1) hx1 h
                  · replace h := it_f hc h
                    refine g_iload d_La_instructionsFault_131 rfl ?_
                    obtain rfl := Option.some.inj h
                    exact g_iret rfl d_La_instructionsFault_133
            · replace h := it_t hc h
              refine g_iload d_La_instructionsFault_86 rfl ?_
              obtain rfl := Option.some.inj h
              exact g_iret rfl d_La_instructionsFault_88
        · replace h := it_t hc h
          refine g_iload d_La_instructionsFault_66 rfl ?_
          obtain rfl := Option.some.inj h
          exact g_iret rfl d_La_instructionsFault_68
def f_La_instructionsFault (bb : Nat → Int32) (rd_at : Int32) (rd_limit : Int32) (rd_broken : Int32) (li_operation : Int32) (li_register : Int32) (li_number : Int32) (li_bytesFrom : Int32) (en_isFrame : Nat → Int32) (en_instructions : Nat → Int32) (en_ends : Nat → Int32) (j1 : Nat) : Option (Int32 × Int32 × Int32 × Int32 × Int32 × Int32 × Int32 × Int32) := ((f_Rd_open rd_at rd_limit rd_broken (en_instructions j1) (en_ends j1)).bind fun q14 => f_La_instructionsFault_19 LF bb q14.1 q14.2.1 q14.2.2 li_operation li_register li_number li_bytesFrom en_isFrame en_instructions en_ends j1 0 0)
set_option maxRecDepth 100000 in
set_option maxHeartbeats 4000000 in
theorem c_La_instructionsFault (l : Launch) (D : va_G) (K : Nat → ClassId) (a_t a_se a_bb a_rd a_li a_ls : Nat) (a_en : Nat → Nat) (t_count : Int32) (bb : Nat → Int32) (rd_at : Int32) (rd_limit : Int32) (rd_broken : Int32) (li_operation : Int32) (li_register : Int32) (li_number : Int32) (li_bytesFrom : Int32) (en_isFrame : Nat → Int32) (en_begins : Nat → Int32) (en_instructions : Nat → Int32) (en_ends : Nat → Int32) (en_common : Nat → Int32) (en_code : Nat → Int32) (en_data : Nat → Int32) (en_returnRegister : Nat → Int32) (en_first : Nat → Int32) (en_range : Nat → Int32) (j1 : Nat) (hj1 : j1 < 16) (o : Int32 × Int32 × Int32 × Int32 × Int32 × Int32 × Int32 × Int32) (h : f_La_instructionsFault bb rd_at rd_limit rd_broken li_operation li_register li_number li_bytesFrom en_isFrame en_instructions en_ends j1 = some o) : Ct l y_La_instructionsFault b_La_instructionsFault 5 (some .int) { frames := 4, cells := 0, slots := 0, locals := 90 } D vwCl (xTy K) [.ref a_t, .ref (a_en j1)] ([(a_t, .inr (3, [.ref a_se, .ref a_rd, .ref a_li, .ref a_ls, .int t_count])), (a_bb, .inl (K 0, 512, .inl bb)), (a_rd, .inr (5, [.ref a_bb, .int rd_at, .int rd_limit, .int rd_broken])), (a_li, .inr (2, [.int li_operation, .int li_register, .int li_number, .int li_bytesFrom]))] ++ (List.range 16).map (fun k9 => (a_en k9, .inr (0, [.int (en_isFrame k9), .int (en_begins k9), .int (en_instructions k9), .int (en_ends k9), .int (en_common k9), .int (en_code k9), .int (en_data k9), .int (en_returnRegister k9), .int (en_first k9), .int (en_range k9)])))) (some (.int o.1)) ([(a_t, .inr (3, [.ref a_se, .ref a_rd, .ref a_li, .ref a_ls, .int t_count])), (a_bb, .inl (K 0, 512, .inl bb)), (a_rd, .inr (5, [.ref a_bb, .int o.2.1, .int o.2.2.1, .int o.2.2.2.1])), (a_li, .inr (2, [.int o.2.2.2.2.1, .int o.2.2.2.2.2.1, .int o.2.2.2.2.2.2.1, .int o.2.2.2.2.2.2.2]))] ++ (List.range 16).map (fun k9 => (a_en k9, .inr (0, [.int (en_isFrame k9), .int (en_begins k9), .int (en_instructions k9), .int (en_ends k9), .int (en_common k9), .int (en_code k9), .int (en_data k9), .int (en_returnRegister k9), .int (en_first k9), .int (en_range k9)])))) := by
  refine Ct.ofG (by decide) (Nat.le_of_ble_eq_true rfl) ?_
  refine g_L (L' := [(0, .ref a_t), (1, .ref (a_en j1))]) rfl ?_
  unfold f_La_instructionsFault at h
  refine g_iconst (v := 0) d_La_instructionsFault_0 (by decide) ?_
  refine g_istore_n (L' := [(2, .int 0), (0, .ref a_t), (1, .ref (a_en j1))]) d_La_instructionsFault_1 (by decide) rfl ?_
  refine g_aload_n d_La_instructionsFault_2 rfl ?_
  refine gf_La_15 0 rfl (v := .ref a_rd) rfl d_La_instructionsFault_3 ?_
  refine g_aload_n d_La_instructionsFault_6 rfl ?_
  refine gf_La_108 (4 + j1) (gPl_at hj1) (v := .int (en_instructions j1)) rfl d_La_instructionsFault_7 ?_
  refine g_aload_n d_La_instructionsFault_10 rfl ?_
  refine gf_La_50 (4 + j1) (gPl_at hj1) (v := .int (en_ends j1)) rfl d_La_instructionsFault_11 ?_
  obtain ⟨q14, hq14, h⟩ := it_b h
  refine g_callV (ci := 5) (q := (xR_Rd, xF_Rd, 4)) (As := [.int (en_instructions j1), .int (en_ends j1)]) (rest := []) (st2 := []) (ws2 := ([(a_t, .inr (3, [.ref a_se, .ref a_rd, .ref a_li, .ref a_ls, .int t_count])), (a_bb, .inl (K 0, 512, .inl bb)), (a_rd, .inr (5, [.ref a_bb, .int q14.1, .int q14.2.1, .int q14.2.2])), (a_li, .inr (2, [.int li_operation, .int li_register, .int li_number, .int li_bytesFrom]))] ++ (List.range 16).map (fun k9 => (a_en k9, .inr (0, [.int (en_isFrame k9), .int (en_begins k9), .int (en_instructions k9), .int (en_ends k9), .int (en_common k9), .int (en_code k9), .int (en_data k9), .int (en_returnRegister k9), .int (en_first k9), .int (en_range k9)]))))) (c_Rd_open l D K a_rd a_bb rd_at rd_limit rd_broken (en_instructions j1) (en_ends j1) q14 hq14) (cs_La_57 rfl rfl ⟨Nat.le_of_ble_eq_true rfl, Nat.le_of_ble_eq_true rfl⟩) rfl 2 rfl (by refine gOver.fr (gOver.mk2 [2] [none, none, some 0, none] (by decide) (by decide) ?_ ?_ ?_) <;> rfl) (Nat.le_of_ble_eq_true rfl) ⟨Nat.le_of_ble_eq_true rfl, Nat.le_of_ble_eq_true rfl⟩ d_La_instructionsFault_14 rfl rfl ?_
  refine g_iconst (v := 0) d_La_instructionsFault_17 (by decide) ?_
  refine g_istore_n (L' := [(3, .int 0), (2, .int 0), (0, .ref a_t), (1, .ref (a_en j1))]) d_La_instructionsFault_18 (by decide) rfl ?_
  refine g_lsub (L' := [(0, .ref a_t), (1, .ref (a_en j1)), (2, .int 0), (3, .int 0)]) [2, 3, 1, 0] rfl ?_
  exact j_La_instructionsFault_19 l D K a_t a_se a_bb a_rd a_li a_ls a_en LF t_count bb q14.1 q14.2.1 q14.2.2 li_operation li_register li_number li_bytesFrom en_isFrame en_begins en_instructions en_ends en_common en_code en_data en_returnRegister en_first en_range j1 0 0 hj1 o h
def f_La_firstFault_9 : Nat → Int32 → Int32 → (Nat → Int32) → Int32 → Int32 → Int32 → Int32 → Int32 → Int32 → Int32 → (Nat → Int32) → (Nat → Int32) → (Nat → Int32) → (Nat → Int32) → (Nat → Int32) → (Nat → Int32) → (Nat → Int32) → (Nat → Int32) → (Nat → Int32) → (Nat → Int32) → Int32 → Int32 → Option (Int32 × Int32 × Int32 × Int32 × Int32 × Int32 × Int32 × Int32 × Int32 × (Nat → Int32) × (Nat → Int32) × (Nat → Int32) × (Nat → Int32) × (Nat → Int32) × (Nat → Int32) × (Nat → Int32) × (Nat → Int32) × (Nat → Int32) × (Nat → Int32))
  | 0, _, _, _, _, _, _, _, _, _, _, _, _, _, _, _, _, _, _, _, _, _, _ => none
  | n + 1, t_count, se_size, bb, rd_at, rd_limit, rd_broken, li_operation, li_register, li_number, li_bytesFrom, en_isFrame, en_begins, en_instructions, en_ends, en_common, en_code, en_data, en_returnRegister, en_first, en_range, x1, x2 => if 16 ≤ x2 then (if se_size ≤ x1 then (some ((-1), t_count, rd_at, rd_limit, rd_broken, li_operation, li_register, li_number, li_bytesFrom, en_isFrame, en_begins, en_instructions, en_ends, en_common, en_code, en_data, en_returnRegister, en_first, en_range)) else (some (x1, t_count, rd_at, rd_limit, rd_broken, li_operation, li_register, li_number, li_bytesFrom, en_isFrame, en_begins, en_instructions, en_ends, en_common, en_code, en_data, en_returnRegister, en_first, en_range))) else (if se_size ≤ x1 then (if se_size ≤ x1 then (some ((-1), t_count, rd_at, rd_limit, rd_broken, li_operation, li_register, li_number, li_bytesFrom, en_isFrame, en_begins, en_instructions, en_ends, en_common, en_code, en_data, en_returnRegister, en_first, en_range)) else (some (x1, t_count, rd_at, rd_limit, rd_broken, li_operation, li_register, li_number, li_bytesFrom, en_isFrame, en_begins, en_instructions, en_ends, en_common, en_code, en_data, en_returnRegister, en_first, en_range))) else (if x2 < 0 ∨ 16 ≤ x2.toNatClampNeg then none else ((f_La_headFault t_count se_size bb rd_at rd_limit rd_broken en_isFrame en_begins en_instructions en_ends en_common en_code en_data en_returnRegister en_first en_range x2.toNatClampNeg x1).bind fun q36 => if q36.1 = (-1) then (((f_La_instructionsFault bb q36.2.1 q36.2.2.1 q36.2.2.2.1 li_operation li_register li_number li_bytesFrom q36.2.2.2.2.1 q36.2.2.2.2.2.2.1 q36.2.2.2.2.2.2.2.1 x2.toNatClampNeg).bind fun q49 => if q49.1 = (-1) then (f_La_firstFault_9 n (t_count + 1) se_size bb q49.2.1 q49.2.2.1 q49.2.2.2.1 q49.2.2.2.2.1 q49.2.2.2.2.2.1 q49.2.2.2.2.2.2.1 q49.2.2.2.2.2.2.2 q36.2.2.2.2.1 q36.2.2.2.2.2.1 q36.2.2.2.2.2.2.1 q36.2.2.2.2.2.2.2.1 q36.2.2.2.2.2.2.2.2.1 q36.2.2.2.2.2.2.2.2.2.1 q36.2.2.2.2.2.2.2.2.2.2.1 q36.2.2.2.2.2.2.2.2.2.2.2.1 q36.2.2.2.2.2.2.2.2.2.2.2.2.1 q36.2.2.2.2.2.2.2.2.2.2.2.2.2 (q36.2.2.2.2.2.2.2.1 x2.toNatClampNeg) (x2 + 1)) else (some (q49.1, t_count, q49.2.1, q49.2.2.1, q49.2.2.2.1, q49.2.2.2.2.1, q49.2.2.2.2.2.1, q49.2.2.2.2.2.2.1, q49.2.2.2.2.2.2.2, q36.2.2.2.2.1, q36.2.2.2.2.2.1, q36.2.2.2.2.2.2.1, q36.2.2.2.2.2.2.2.1, q36.2.2.2.2.2.2.2.2.1, q36.2.2.2.2.2.2.2.2.2.1, q36.2.2.2.2.2.2.2.2.2.2.1, q36.2.2.2.2.2.2.2.2.2.2.2.1, q36.2.2.2.2.2.2.2.2.2.2.2.2.1, q36.2.2.2.2.2.2.2.2.2.2.2.2.2)))) else (if q36.1 = (-1) then (f_La_firstFault_9 n (t_count + 1) se_size bb q36.2.1 q36.2.2.1 q36.2.2.2.1 li_operation li_register li_number li_bytesFrom q36.2.2.2.2.1 q36.2.2.2.2.2.1 q36.2.2.2.2.2.2.1 q36.2.2.2.2.2.2.2.1 q36.2.2.2.2.2.2.2.2.1 q36.2.2.2.2.2.2.2.2.2.1 q36.2.2.2.2.2.2.2.2.2.2.1 q36.2.2.2.2.2.2.2.2.2.2.2.1 q36.2.2.2.2.2.2.2.2.2.2.2.2.1 q36.2.2.2.2.2.2.2.2.2.2.2.2.2 (q36.2.2.2.2.2.2.2.1 x2.toNatClampNeg) (x2 + 1)) else (some (q36.1, t_count, q36.2.1, q36.2.2.1, q36.2.2.2.1, li_operation, li_register, li_number, li_bytesFrom, q36.2.2.2.2.1, q36.2.2.2.2.2.1, q36.2.2.2.2.2.2.1, q36.2.2.2.2.2.2.2.1, q36.2.2.2.2.2.2.2.2.1, q36.2.2.2.2.2.2.2.2.2.1, q36.2.2.2.2.2.2.2.2.2.2.1, q36.2.2.2.2.2.2.2.2.2.2.2.1, q36.2.2.2.2.2.2.2.2.2.2.2.2.1, q36.2.2.2.2.2.2.2.2.2.2.2.2.2))))))
set_option maxRecDepth 100000 in
set_option maxHeartbeats 4000000 in
theorem j_La_firstFault_9 (l : Launch) (D : va_G) (K : Nat → ClassId) (a_t a_se a_bb a_rd a_li a_ls : Nat) (a_en : Nat → Nat) {av : List Value} {w0 : va_W} (n : Nat) (t_count : Int32) (se_size : Int32) (bb : Nat → Int32) (rd_at : Int32) (rd_limit : Int32) (rd_broken : Int32) (li_operation : Int32) (li_register : Int32) (li_number : Int32) (li_bytesFrom : Int32) (en_isFrame : Nat → Int32) (en_begins : Nat → Int32) (en_instructions : Nat → Int32) (en_ends : Nat → Int32) (en_common : Nat → Int32) (en_code : Nat → Int32) (en_data : Nat → Int32) (en_returnRegister : Nat → Int32) (en_first : Nat → Int32) (en_range : Nat → Int32) (x1 : Int32) (x2 : Int32) (o : Int32 × Int32 × Int32 × Int32 × Int32 × Int32 × Int32 × Int32 × Int32 × (Nat → Int32) × (Nat → Int32) × (Nat → Int32) × (Nat → Int32) × (Nat → Int32) × (Nat → Int32) × (Nat → Int32) × (Nat → Int32) × (Nat → Int32) × (Nat → Int32)) (h : f_La_firstFault_9 n t_count se_size bb rd_at rd_limit rd_broken li_operation li_register li_number li_bytesFrom en_isFrame en_begins en_instructions en_ends en_common en_code en_data en_returnRegister en_first en_range x1 x2 = some o) : Gm l y_La_firstFault b_La_firstFault 5 (some .int) { frames := 5, cells := 0, slots := 0, locals := 114 } D vwCl (xTy K) av w0 (CtF D vwCl av w0 (some (.int o.1)) ([(a_t, .inr (3, [.ref a_se, .ref a_rd, .ref a_li, .ref a_ls, .int o.2.1])), (a_se, .inr (8, [.ref a_bb, .int se_size])), (a_bb, .inl (K 0, 512, .inl bb)), (a_rd, .inr (5, [.ref a_bb, .int o.2.2.1, .int o.2.2.2.1, .int o.2.2.2.2.1])), (a_li, .inr (2, [.int o.2.2.2.2.2.1, .int o.2.2.2.2.2.2.1, .int o.2.2.2.2.2.2.2.1, .int o.2.2.2.2.2.2.2.2.1])), (a_ls, .inl (K 4, 16, .inr (.inr (.inr (.inr (fun k9 => some (a_en k9)))))))] ++ (List.range 16).map (fun k9 => (a_en k9, .inr (0, [.int (o.2.2.2.2.2.2.2.2.2.1 k9), .int (o.2.2.2.2.2.2.2.2.2.2.1 k9), .int (o.2.2.2.2.2.2.2.2.2.2.2.1 k9), .int (o.2.2.2.2.2.2.2.2.2.2.2.2.1 k9), .int (o.2.2.2.2.2.2.2.2.2.2.2.2.2.1 k9), .int (o.2.2.2.2.2.2.2.2.2.2.2.2.2.2.1 k9), .int (o.2.2.2.2.2.2.2.2.2.2.2.2.2.2.2.1 k9), .int (o.2.2.2.2.2.2.2.2.2.2.2.2.2.2.2.2.1 k9), .int (o.2.2.2.2.2.2.2.2.2.2.2.2.2.2.2.2.2.1 k9), .int (o.2.2.2.2.2.2.2.2.2.2.2.2.2.2.2.2.2.2 k9)]))))) 0 0 ([(a_t, .inr (3, [.ref a_se, .ref a_rd, .ref a_li, .ref a_ls, .int t_count])), (a_se, .inr (8, [.ref a_bb, .int se_size])), (a_bb, .inl (K 0, 512, .inl bb)), (a_rd, .inr (5, [.ref a_bb, .int rd_at, .int rd_limit, .int rd_broken])), (a_li, .inr (2, [.int li_operation, .int li_register, .int li_number, .int li_bytesFrom])), (a_ls, .inl (K 4, 16, .inr (.inr (.inr (.inr (fun k9 => some (a_en k9)))))))] ++ (List.range 16).map (fun k9 => (a_en k9, .inr (0, [.int (en_isFrame k9), .int (en_begins k9), .int (en_instructions k9), .int (en_ends k9), .int (en_common k9), .int (en_code k9), .int (en_data k9), .int (en_returnRegister k9), .int (en_first k9), .int (en_range k9)])))) [(0, .ref a_t), (1, .int x1), (2, .int x2)] 9 [] := by
  induction n generalizing t_count se_size bb rd_at rd_limit rd_broken li_operation li_register li_number li_bytesFrom en_isFrame en_begins en_instructions en_ends en_common en_code en_data en_returnRegister en_first en_range x1 x2 with
  | zero => exact absurd h (by rw [f_La_firstFault_9]; exact fun z => nomatch z)
  | succ n ih =>
    rw [f_La_firstFault_9] at h
    refine g_iload_n d_La_firstFault_9 rfl ?_
    refine g_bipush (v := 16) d_La_firstFault_10 (by decide) ?_
    refine g_icmp_ge (tgt := 84) d_La_firstFault_12 (by decide) (fun hc => ?_) (fun hc => ?_)
    · replace h := it_t hc h
      refine g_iload_n d_La_firstFault_84 rfl ?_
      refine g_aload_n d_La_firstFault_85 rfl ?_
      refine gf_La_9 0 rfl (v := .ref a_se) rfl d_La_firstFault_86 ?_
      refine gf_La_37 1 rfl (v := .int se_size) rfl d_La_firstFault_89 ?_
      refine g_icmp_ge (tgt := 99) d_La_firstFault_92 (by decide) (fun hc => ?_) (fun hc => ?_)
      · replace h := it_t hc h
        refine g_iconst (v := (-1)) d_La_firstFault_99 (by decide) ?_
        obtain rfl := Option.some.inj h
        exact g_iret rfl d_La_firstFault_100
      · replace h := it_f hc h
        refine g_iload_n d_La_firstFault_95 rfl ?_
        refine g_goto (tgt := 100) d_La_firstFault_96 (by decide) ?_
        obtain rfl := Option.some.inj h
        exact g_iret rfl d_La_firstFault_100
    · replace h := it_f hc h
      refine g_iload_n d_La_firstFault_15 rfl ?_
      refine g_aload_n d_La_firstFault_16 rfl ?_
      refine gf_La_9 0 rfl (v := .ref a_se) rfl d_La_firstFault_17 ?_
      refine gf_La_37 1 rfl (v := .int se_size) rfl d_La_firstFault_20 ?_
      refine g_icmp_ge (tgt := 84) d_La_firstFault_23 (by decide) (fun hc => ?_) (fun hc => ?_)
      · replace h := it_t hc h
        refine g_iload_n d_La_firstFault_84 rfl ?_
        refine g_aload_n d_La_firstFault_85 rfl ?_
        refine gf_La_9 0 rfl (v := .ref a_se) rfl d_La_firstFault_86 ?_
        refine gf_La_37 1 rfl (v := .int se_size) rfl d_La_firstFault_89 ?_
        refine g_icmp_ge (tgt := 99) d_La_firstFault_92 (by decide) (fun hc => ?_) (fun hc => ?_)
        · replace h := it_t hc h
          refine g_iconst (v := (-1)) d_La_firstFault_99 (by decide) ?_
          obtain rfl := Option.some.inj h
          exact g_iret rfl d_La_firstFault_100
        · replace h := it_f hc h
          refine g_iload_n d_La_firstFault_95 rfl ?_
          refine g_goto (tgt := 100) d_La_firstFault_96 (by decide) ?_
          obtain rfl := Option.some.inj h
          exact g_iret rfl d_La_firstFault_100
      · replace h := it_f hc h
        refine g_aload_n d_La_firstFault_26 rfl ?_
        refine gf_La_28 0 rfl (v := .ref a_ls) rfl d_La_firstFault_27 ?_
        refine g_iload_n d_La_firstFault_30 rfl ?_
        obtain ⟨hi31, h⟩ := it_in h
        refine g_aldq 5 4 d_La_firstFault_31 rfl rfl hi31 (v := .ref (a_en x2.toNatClampNeg)) rfl ?_
        refine g_astore_n (L' := [(3, .ref (a_en x2.toNatClampNeg)), (0, .ref a_t), (1, .int x1), (2, .int x2)]) d_La_firstFault_32 (by decide) rfl ?_
        refine g_aload_n d_La_firstFault_33 rfl ?_
        refine g_aload_n d_La_firstFault_34 rfl ?_
        refine g_iload_n d_La_firstFault_35 rfl ?_
        obtain ⟨q36, hq36, h⟩ := it_b h
        refine g_callV (ci := 3) (q := (xR_La, xF_La, 5)) (As := [.ref (a_en x2.toNatClampNeg), .int x1]) (rest := []) (st2 := [.int q36.1]) (ws2 := ([(a_t, .inr (3, [.ref a_se, .ref a_rd, .ref a_li, .ref a_ls, .int t_count])), (a_se, .inr (8, [.ref a_bb, .int se_size])), (a_bb, .inl (K 0, 512, .inl bb)), (a_rd, .inr (5, [.ref a_bb, .int q36.2.1, .int q36.2.2.1, .int q36.2.2.2.1])), (a_li, .inr (2, [.int li_operation, .int li_register, .int li_number, .int li_bytesFrom])), (a_ls, .inl (K 4, 16, .inr (.inr (.inr (.inr (fun k9 => some (a_en k9)))))))] ++ (List.range 16).map (fun k9 => (a_en k9, .inr (0, [.int (q36.2.2.2.2.1 k9), .int (q36.2.2.2.2.2.1 k9), .int (q36.2.2.2.2.2.2.1 k9), .int (q36.2.2.2.2.2.2.2.1 k9), .int (q36.2.2.2.2.2.2.2.2.1 k9), .int (q36.2.2.2.2.2.2.2.2.2.1 k9), .int (q36.2.2.2.2.2.2.2.2.2.2.1 k9), .int (q36.2.2.2.2.2.2.2.2.2.2.2.1 k9), .int (q36.2.2.2.2.2.2.2.2.2.2.2.2.1 k9), .int (q36.2.2.2.2.2.2.2.2.2.2.2.2.2 k9)]))))) (c_La_headFault l D K a_t a_se a_bb a_rd a_li a_ls a_en t_count se_size bb rd_at rd_limit rd_broken en_isFrame en_begins en_instructions en_ends en_common en_code en_data en_returnRegister en_first en_range x2.toNatClampNeg x1 (gLt hi31) q36 hq36) (cs_La_42 rfl rfl ⟨Nat.le_of_ble_eq_true rfl, Nat.le_of_ble_eq_true rfl⟩) rfl 0 rfl (by refine gOver.plG (gOver.mk2 [0, 1, 2, 3, 5] [some 0, some 1, some 2, some 3, none, some 4] (by decide) (by decide) ?_ ?_ ?_) (fun _ => ?_) <;> rfl) (Nat.le_of_ble_eq_true rfl) ⟨Nat.le_of_ble_eq_true rfl, Nat.le_of_ble_eq_true rfl⟩ d_La_firstFault_36 rfl rfl ?_
        refine g_istore (L' := [(4, .int q36.1), (3, .ref (a_en x2.toNatClampNeg)), (0, .ref a_t), (1, .int x1), (2, .int x2)]) d_La_firstFault_39 (by decide) rfl ?_
        refine g_iload d_La_firstFault_41 rfl ?_
        refine g_iconst (v := (-1)) d_La_firstFault_43 (by decide) ?_
        refine g_icmp_ne (tgt := 54) d_La_firstFault_44 (by decide) (fun hc => ?_) (fun hc => ?_)
        · replace h := it_f hc h
          refine g_iload d_La_firstFault_54 rfl ?_
          refine g_iconst (v := (-1)) d_La_firstFault_56 (by decide) ?_
          refine g_icmp_eq (tgt := 63) d_La_firstFault_57 (by decide) (fun hc => ?_) (fun hc => ?_)
          · replace h := it_t hc h
            refine g_aload_n d_La_firstFault_63 rfl ?_
            refine gf_La_50 (6 + x2.toNatClampNeg) (gPl_at (gLt hi31)) (v := .int (q36.2.2.2.2.2.2.2.1 x2.toNatClampNeg)) rfl d_La_firstFault_64 ?_
            refine g_istore_n (L' := [(1, .int (q36.2.2.2.2.2.2.2.1 x2.toNatClampNeg)), (4, .int q36.1), (3, .ref (a_en x2.toNatClampNeg)), (0, .ref a_t), (2, .int x2)]) d_La_firstFault_67 (by decide) rfl ?_
            refine g_aload_n d_La_firstFault_68 rfl ?_
            refine g_dup d_La_firstFault_69 rfl ?_
            refine gf_La_33 0 rfl (v := .int t_count) rfl d_La_firstFault_70 ?_
            refine g_iconst (v := 1) d_La_firstFault_73 (by decide) ?_
            refine g_iadd d_La_firstFault_74 ?_
            refine pf_La_33 0 rfl (v := .int (t_count + 1)) rfl rfl (Nat.le_of_ble_eq_true rfl) (ws' := ([(a_t, .inr (3, [.ref a_se, .ref a_rd, .ref a_li, .ref a_ls, .int (t_count + 1)])), (a_se, .inr (8, [.ref a_bb, .int se_size])), (a_bb, .inl (K 0, 512, .inl bb)), (a_rd, .inr (5, [.ref a_bb, .int q36.2.1, .int q36.2.2.1, .int q36.2.2.2.1])), (a_li, .inr (2, [.int li_operation, .int li_register, .int li_number, .int li_bytesFrom])), (a_ls, .inl (K 4, 16, .inr (.inr (.inr (.inr (fun k9 => some (a_en k9)))))))] ++ (List.range 16).map (fun k9 => (a_en k9, .inr (0, [.int (q36.2.2.2.2.1 k9), .int (q36.2.2.2.2.2.1 k9), .int (q36.2.2.2.2.2.2.1 k9), .int (q36.2.2.2.2.2.2.2.1 k9), .int (q36.2.2.2.2.2.2.2.2.1 k9), .int (q36.2.2.2.2.2.2.2.2.2.1 k9), .int (q36.2.2.2.2.2.2.2.2.2.2.1 k9), .int (q36.2.2.2.2.2.2.2.2.2.2.2.1 k9), .int (q36.2.2.2.2.2.2.2.2.2.2.2.2.1 k9), .int (q36.2.2.2.2.2.2.2.2.2.2.2.2.2 k9)]))))) rfl d_La_firstFault_75 ?_
            refine g_iinc (k := 4) (v := x2 + 1) (L' := [(2, .int (x2 + 1)), (1, .int (q36.2.2.2.2.2.2.2.1 x2.toNatClampNeg)), (4, .int q36.1), (3, .ref (a_en x2.toNatClampNeg)), (0, .ref a_t)]) d_La_firstFault_78 rfl (by first | rfl | decide) (by decide) rfl ?_
            refine g_goto (tgt := 9) d_La_firstFault_81 (by decide) ?_
            refine g_lsub (L' := [(0, .ref a_t), (1, .int (q36.2.2.2.2.2.2.2.1 x2.toNatClampNeg)), (2, .int (x2 + 1))]) [4, 1, 0] rfl ?_
            exact ih (t_count + 1) se_size bb q36.2.1 q36.2.2.1 q36.2.2.2.1 li_operation li_register li_number li_bytesFrom q36.2.2.2.2.1 q36.2.2.2.2.2.1 q36.2.2.2.2.2.2.1 q36.2.2.2.2.2.2.2.1 q36.2.2.2.2.2.2.2.2.1 q36.2.2.2.2.2.2.2.2.2.1 q36.2.2.2.2.2.2.2.2.2.2.1 q36.2.2.2.2.2.2.2.2.2.2.2.1 q36.2.2.2.2.2.2.2.2.2.2.2.2.1 q36.2.2.2.2.2.2.2.2.2.2.2.2.2 (q36.2.2.2.2.2.2.2.1 x2.toNatClampNeg) (x2 + 1) h
          · replace h := it_f hc h
            refine g_iload d_La_firstFault_60 rfl ?_
            obtain rfl := Option.some.inj h
            exact g_iret rfl d_La_firstFault_62
        · replace h := it_t hc h
          refine g_aload_n d_La_firstFault_47 rfl ?_
          refine g_aload_n d_La_firstFault_48 rfl ?_
          obtain ⟨q49, hq49, h⟩ := it_b h
          refine g_callV (ci := 3) (q := (xR_La, xF_La, 5)) (As := [.ref (a_en x2.toNatClampNeg)]) (rest := []) (st2 := [.int q49.1]) (ws2 := ([(a_t, .inr (3, [.ref a_se, .ref a_rd, .ref a_li, .ref a_ls, .int t_count])), (a_se, .inr (8, [.ref a_bb, .int se_size])), (a_bb, .inl (K 0, 512, .inl bb)), (a_rd, .inr (5, [.ref a_bb, .int q49.2.1, .int q49.2.2.1, .int q49.2.2.2.1])), (a_li, .inr (2, [.int q49.2.2.2.2.1, .int q49.2.2.2.2.2.1, .int q49.2.2.2.2.2.2.1, .int q49.2.2.2.2.2.2.2])), (a_ls, .inl (K 4, 16, .inr (.inr (.inr (.inr (fun k9 => some (a_en k9)))))))] ++ (List.range 16).map (fun k9 => (a_en k9, .inr (0, [.int (q36.2.2.2.2.1 k9), .int (q36.2.2.2.2.2.1 k9), .int (q36.2.2.2.2.2.2.1 k9), .int (q36.2.2.2.2.2.2.2.1 k9), .int (q36.2.2.2.2.2.2.2.2.1 k9), .int (q36.2.2.2.2.2.2.2.2.2.1 k9), .int (q36.2.2.2.2.2.2.2.2.2.2.1 k9), .int (q36.2.2.2.2.2.2.2.2.2.2.2.1 k9), .int (q36.2.2.2.2.2.2.2.2.2.2.2.2.1 k9), .int (q36.2.2.2.2.2.2.2.2.2.2.2.2.2 k9)]))))) (c_La_instructionsFault l D K a_t a_se a_bb a_rd a_li a_ls a_en t_count bb q36.2.1 q36.2.2.1 q36.2.2.2.1 li_operation li_register li_number li_bytesFrom q36.2.2.2.2.1 q36.2.2.2.2.2.1 q36.2.2.2.2.2.2.1 q36.2.2.2.2.2.2.2.1 q36.2.2.2.2.2.2.2.2.1 q36.2.2.2.2.2.2.2.2.2.1 q36.2.2.2.2.2.2.2.2.2.2.1 q36.2.2.2.2.2.2.2.2.2.2.2.1 q36.2.2.2.2.2.2.2.2.2.2.2.2.1 q36.2.2.2.2.2.2.2.2.2.2.2.2.2 x2.toNatClampNeg (gLt hi31) q49 hq49) (cs_La_46 rfl rfl ⟨Nat.le_of_ble_eq_true rfl, Nat.le_of_ble_eq_true rfl⟩) rfl 0 rfl (by refine gOver.plG (gOver.mk2 [0, 2, 3, 4] [some 0, none, some 1, some 2, some 3, none] (by decide) (by decide) ?_ ?_ ?_) (fun _ => ?_) <;> rfl) (Nat.le_of_ble_eq_true rfl) ⟨Nat.le_of_ble_eq_true rfl, Nat.le_of_ble_eq_true rfl⟩ d_La_firstFault_49 rfl rfl ?_
          refine g_istore (L' := [(4, .int q49.1), (3, .ref (a_en x2.toNatClampNeg)), (0, .ref a_t), (1, .int x1), (2, .int x2)]) d_La_firstFault_52 (by decide) rfl ?_
          refine g_iload d_La_firstFault_54 rfl ?_
          refine g_iconst (v := (-1)) d_La_firstFault_56 (by decide) ?_
          refine g_icmp_eq (tgt := 63) d_La_firstFault_57 (by decide) (fun hc => ?_) (fun hc => ?_)
          · replace h := it_t hc h
            refine g_aload_n d_La_firstFault_63 rfl ?_
            refine gf_La_50 (6 + x2.toNatClampNeg) (gPl_at (gLt hi31)) (v := .int (q36.2.2.2.2.2.2.2.1 x2.toNatClampNeg)) rfl d_La_firstFault_64 ?_
            refine g_istore_n (L' := [(1, .int (q36.2.2.2.2.2.2.2.1 x2.toNatClampNeg)), (4, .int q49.1), (3, .ref (a_en x2.toNatClampNeg)), (0, .ref a_t), (2, .int x2)]) d_La_firstFault_67 (by decide) rfl ?_
            refine g_aload_n d_La_firstFault_68 rfl ?_
            refine g_dup d_La_firstFault_69 rfl ?_
            refine gf_La_33 0 rfl (v := .int t_count) rfl d_La_firstFault_70 ?_
            refine g_iconst (v := 1) d_La_firstFault_73 (by decide) ?_
            refine g_iadd d_La_firstFault_74 ?_
            refine pf_La_33 0 rfl (v := .int (t_count + 1)) rfl rfl (Nat.le_of_ble_eq_true rfl) (ws' := ([(a_t, .inr (3, [.ref a_se, .ref a_rd, .ref a_li, .ref a_ls, .int (t_count + 1)])), (a_se, .inr (8, [.ref a_bb, .int se_size])), (a_bb, .inl (K 0, 512, .inl bb)), (a_rd, .inr (5, [.ref a_bb, .int q49.2.1, .int q49.2.2.1, .int q49.2.2.2.1])), (a_li, .inr (2, [.int q49.2.2.2.2.1, .int q49.2.2.2.2.2.1, .int q49.2.2.2.2.2.2.1, .int q49.2.2.2.2.2.2.2])), (a_ls, .inl (K 4, 16, .inr (.inr (.inr (.inr (fun k9 => some (a_en k9)))))))] ++ (List.range 16).map (fun k9 => (a_en k9, .inr (0, [.int (q36.2.2.2.2.1 k9), .int (q36.2.2.2.2.2.1 k9), .int (q36.2.2.2.2.2.2.1 k9), .int (q36.2.2.2.2.2.2.2.1 k9), .int (q36.2.2.2.2.2.2.2.2.1 k9), .int (q36.2.2.2.2.2.2.2.2.2.1 k9), .int (q36.2.2.2.2.2.2.2.2.2.2.1 k9), .int (q36.2.2.2.2.2.2.2.2.2.2.2.1 k9), .int (q36.2.2.2.2.2.2.2.2.2.2.2.2.1 k9), .int (q36.2.2.2.2.2.2.2.2.2.2.2.2.2 k9)]))))) rfl d_La_firstFault_75 ?_
            refine g_iinc (k := 4) (v := x2 + 1) (L' := [(2, .int (x2 + 1)), (1, .int (q36.2.2.2.2.2.2.2.1 x2.toNatClampNeg)), (4, .int q49.1), (3, .ref (a_en x2.toNatClampNeg)), (0, .ref a_t)]) d_La_firstFault_78 rfl (by first | rfl | decide) (by decide) rfl ?_
            refine g_goto (tgt := 9) d_La_firstFault_81 (by decide) ?_
            refine g_lsub (L' := [(0, .ref a_t), (1, .int (q36.2.2.2.2.2.2.2.1 x2.toNatClampNeg)), (2, .int (x2 + 1))]) [4, 1, 0] rfl ?_
            exact ih (t_count + 1) se_size bb q49.2.1 q49.2.2.1 q49.2.2.2.1 q49.2.2.2.2.1 q49.2.2.2.2.2.1 q49.2.2.2.2.2.2.1 q49.2.2.2.2.2.2.2 q36.2.2.2.2.1 q36.2.2.2.2.2.1 q36.2.2.2.2.2.2.1 q36.2.2.2.2.2.2.2.1 q36.2.2.2.2.2.2.2.2.1 q36.2.2.2.2.2.2.2.2.2.1 q36.2.2.2.2.2.2.2.2.2.2.1 q36.2.2.2.2.2.2.2.2.2.2.2.1 q36.2.2.2.2.2.2.2.2.2.2.2.2.1 q36.2.2.2.2.2.2.2.2.2.2.2.2.2 (q36.2.2.2.2.2.2.2.1 x2.toNatClampNeg) (x2 + 1) h
          · replace h := it_f hc h
            refine g_iload d_La_firstFault_60 rfl ?_
            obtain rfl := Option.some.inj h
            exact g_iret rfl d_La_firstFault_62
def f_La_firstFault (t_count : Int32) (se_size : Int32) (bb : Nat → Int32) (rd_at : Int32) (rd_limit : Int32) (rd_broken : Int32) (li_operation : Int32) (li_register : Int32) (li_number : Int32) (li_bytesFrom : Int32) (en_isFrame : Nat → Int32) (en_begins : Nat → Int32) (en_instructions : Nat → Int32) (en_ends : Nat → Int32) (en_common : Nat → Int32) (en_code : Nat → Int32) (en_data : Nat → Int32) (en_returnRegister : Nat → Int32) (en_first : Nat → Int32) (en_range : Nat → Int32) : Option (Int32 × Int32 × Int32 × Int32 × Int32 × Int32 × Int32 × Int32 × Int32 × (Nat → Int32) × (Nat → Int32) × (Nat → Int32) × (Nat → Int32) × (Nat → Int32) × (Nat → Int32) × (Nat → Int32) × (Nat → Int32) × (Nat → Int32) × (Nat → Int32)) := f_La_firstFault_9 LF 0 se_size bb rd_at rd_limit rd_broken li_operation li_register li_number li_bytesFrom en_isFrame en_begins en_instructions en_ends en_common en_code en_data en_returnRegister en_first en_range 0 0
set_option maxRecDepth 100000 in
set_option maxHeartbeats 4000000 in
theorem c_La_firstFault (l : Launch) (D : va_G) (K : Nat → ClassId) (a_t a_se a_bb a_rd a_li a_ls : Nat) (a_en : Nat → Nat) (t_count : Int32) (se_size : Int32) (bb : Nat → Int32) (rd_at : Int32) (rd_limit : Int32) (rd_broken : Int32) (li_operation : Int32) (li_register : Int32) (li_number : Int32) (li_bytesFrom : Int32) (en_isFrame : Nat → Int32) (en_begins : Nat → Int32) (en_instructions : Nat → Int32) (en_ends : Nat → Int32) (en_common : Nat → Int32) (en_code : Nat → Int32) (en_data : Nat → Int32) (en_returnRegister : Nat → Int32) (en_first : Nat → Int32) (en_range : Nat → Int32) (o : Int32 × Int32 × Int32 × Int32 × Int32 × Int32 × Int32 × Int32 × Int32 × (Nat → Int32) × (Nat → Int32) × (Nat → Int32) × (Nat → Int32) × (Nat → Int32) × (Nat → Int32) × (Nat → Int32) × (Nat → Int32) × (Nat → Int32) × (Nat → Int32)) (h : f_La_firstFault t_count se_size bb rd_at rd_limit rd_broken li_operation li_register li_number li_bytesFrom en_isFrame en_begins en_instructions en_ends en_common en_code en_data en_returnRegister en_first en_range = some o) : Ct l y_La_firstFault b_La_firstFault 5 (some .int) { frames := 5, cells := 0, slots := 0, locals := 114 } D vwCl (xTy K) [.ref a_t] ([(a_t, .inr (3, [.ref a_se, .ref a_rd, .ref a_li, .ref a_ls, .int t_count])), (a_se, .inr (8, [.ref a_bb, .int se_size])), (a_bb, .inl (K 0, 512, .inl bb)), (a_rd, .inr (5, [.ref a_bb, .int rd_at, .int rd_limit, .int rd_broken])), (a_li, .inr (2, [.int li_operation, .int li_register, .int li_number, .int li_bytesFrom])), (a_ls, .inl (K 4, 16, .inr (.inr (.inr (.inr (fun k9 => some (a_en k9)))))))] ++ (List.range 16).map (fun k9 => (a_en k9, .inr (0, [.int (en_isFrame k9), .int (en_begins k9), .int (en_instructions k9), .int (en_ends k9), .int (en_common k9), .int (en_code k9), .int (en_data k9), .int (en_returnRegister k9), .int (en_first k9), .int (en_range k9)])))) (some (.int o.1)) ([(a_t, .inr (3, [.ref a_se, .ref a_rd, .ref a_li, .ref a_ls, .int o.2.1])), (a_se, .inr (8, [.ref a_bb, .int se_size])), (a_bb, .inl (K 0, 512, .inl bb)), (a_rd, .inr (5, [.ref a_bb, .int o.2.2.1, .int o.2.2.2.1, .int o.2.2.2.2.1])), (a_li, .inr (2, [.int o.2.2.2.2.2.1, .int o.2.2.2.2.2.2.1, .int o.2.2.2.2.2.2.2.1, .int o.2.2.2.2.2.2.2.2.1])), (a_ls, .inl (K 4, 16, .inr (.inr (.inr (.inr (fun k9 => some (a_en k9)))))))] ++ (List.range 16).map (fun k9 => (a_en k9, .inr (0, [.int (o.2.2.2.2.2.2.2.2.2.1 k9), .int (o.2.2.2.2.2.2.2.2.2.2.1 k9), .int (o.2.2.2.2.2.2.2.2.2.2.2.1 k9), .int (o.2.2.2.2.2.2.2.2.2.2.2.2.1 k9), .int (o.2.2.2.2.2.2.2.2.2.2.2.2.2.1 k9), .int (o.2.2.2.2.2.2.2.2.2.2.2.2.2.2.1 k9), .int (o.2.2.2.2.2.2.2.2.2.2.2.2.2.2.2.1 k9), .int (o.2.2.2.2.2.2.2.2.2.2.2.2.2.2.2.2.1 k9), .int (o.2.2.2.2.2.2.2.2.2.2.2.2.2.2.2.2.2.1 k9), .int (o.2.2.2.2.2.2.2.2.2.2.2.2.2.2.2.2.2.2 k9)])))) := by
  refine Ct.ofG (by decide) (Nat.le_of_ble_eq_true rfl) ?_
  refine g_L (L' := [(0, .ref a_t)]) rfl ?_
  unfold f_La_firstFault at h
  refine g_iconst (v := 0) d_La_firstFault_0 (by decide) ?_
  refine g_istore_n (L' := [(1, .int 0), (0, .ref a_t)]) d_La_firstFault_1 (by decide) rfl ?_
  refine g_aload_n d_La_firstFault_2 rfl ?_
  refine g_iconst (v := 0) d_La_firstFault_3 (by decide) ?_
  refine pf_La_33 0 rfl (v := .int 0) rfl rfl (Nat.le_of_ble_eq_true rfl) (ws' := ([(a_t, .inr (3, [.ref a_se, .ref a_rd, .ref a_li, .ref a_ls, .int 0])), (a_se, .inr (8, [.ref a_bb, .int se_size])), (a_bb, .inl (K 0, 512, .inl bb)), (a_rd, .inr (5, [.ref a_bb, .int rd_at, .int rd_limit, .int rd_broken])), (a_li, .inr (2, [.int li_operation, .int li_register, .int li_number, .int li_bytesFrom])), (a_ls, .inl (K 4, 16, .inr (.inr (.inr (.inr (fun k9 => some (a_en k9)))))))] ++ (List.range 16).map (fun k9 => (a_en k9, .inr (0, [.int (en_isFrame k9), .int (en_begins k9), .int (en_instructions k9), .int (en_ends k9), .int (en_common k9), .int (en_code k9), .int (en_data k9), .int (en_returnRegister k9), .int (en_first k9), .int (en_range k9)]))))) rfl d_La_firstFault_4 ?_
  refine g_iconst (v := 0) d_La_firstFault_7 (by decide) ?_
  refine g_istore_n (L' := [(2, .int 0), (1, .int 0), (0, .ref a_t)]) d_La_firstFault_8 (by decide) rfl ?_
  refine g_lsub (L' := [(0, .ref a_t), (1, .int 0), (2, .int 0)]) [2, 1, 0] rfl ?_
  exact j_La_firstFault_9 l D K a_t a_se a_bb a_rd a_li a_ls a_en LF 0 se_size bb rd_at rd_limit rd_broken li_operation li_register li_number li_bytesFrom en_isFrame en_begins en_instructions en_ends en_common en_code en_data en_returnRegister en_first en_range 0 0 o h
