def f_Ij_compare (x1_ : Int32) (y1_ : Int32) : Option (Int32) := if y1_ ≤ x1_ then (if x1_ = y1_ then (some 0) else (some 1)) else (some (-1))
set_option maxRecDepth 100000 in
set_option maxHeartbeats 4000000 in
theorem c_Ij_compare (l : Launch) (D : va_G) (K : Nat → ClassId) (x1_ : Int32) (y1_ : Int32) (o : Int32) (h : f_Ij_compare x1_ y1_ = some o) : Ct l y_Ij_compare b_Ij_compare 2 (some .int) { frames := 0, cells := 0, slots := 0, locals := 0 } D vwCl (xTy K) [.int x1_, .int y1_] [] (some (.int o)) [] := by
  refine Ct.ofG (by decide) (Nat.le_of_ble_eq_true rfl) ?_
  refine g_L (L' := [(0, .int x1_), (1, .int y1_)]) rfl ?_
  unfold f_Ij_compare at h
  refine g_iload_n d_Ij_compare_0 rfl ?_
  refine g_iload_n d_Ij_compare_1 rfl ?_
  refine g_icmp_ge (tgt := 9) d_Ij_compare_2 (by decide) (fun hc => ?_) (fun hc => ?_)
  · replace h := it_t hc h
    refine g_iload_n d_Ij_compare_9 rfl ?_
    refine g_iload_n d_Ij_compare_10 rfl ?_
    refine g_icmp_ne (tgt := 18) d_Ij_compare_11 (by decide) (fun hc => ?_) (fun hc => ?_)
    · replace h := it_f hc h
      refine g_iconst (v := 1) d_Ij_compare_18 (by decide) ?_
      obtain rfl := Option.some.inj h
      exact g_iret rfl d_Ij_compare_19
    · replace h := it_t hc h
      refine g_iconst (v := 0) d_Ij_compare_14 (by decide) ?_
      refine g_goto (tgt := 19) d_Ij_compare_15 (by decide) ?_
      obtain rfl := Option.some.inj h
      exact g_iret rfl d_Ij_compare_19
  · replace h := it_f hc h
    refine g_iconst (v := (-1)) d_Ij_compare_5 (by decide) ?_
    refine g_goto (tgt := 19) d_Ij_compare_6 (by decide) ?_
    obtain rfl := Option.some.inj h
    exact g_iret rfl d_Ij_compare_19
def f_Ij_compareUnsigned (x1_ : Int32) (y1_ : Int32) : Option (Int32) := ((f_Ij_compare (x1_ + (-2147483648)) (y1_ + (-2147483648))).bind fun q8 => some q8)
set_option maxRecDepth 100000 in
set_option maxHeartbeats 4000000 in
theorem c_Ij_compareUnsigned (l : Launch) (D : va_G) (K : Nat → ClassId) (x1_ : Int32) (y1_ : Int32) (o : Int32) (h : f_Ij_compareUnsigned x1_ y1_ = some o) : Ct l y_Ij_compareUnsigned b_Ij_compareUnsigned 2 (some .int) { frames := 1, cells := 0, slots := 0, locals := 21 } D vwCl (xTy K) [.int x1_, .int y1_] [] (some (.int o)) [] := by
  refine Ct.ofG (by decide) (Nat.le_of_ble_eq_true rfl) ?_
  refine g_L (L' := [(0, .int x1_), (1, .int y1_)]) rfl ?_
  unfold f_Ij_compareUnsigned at h
  refine g_iload_n d_Ij_compareUnsigned_0 rfl ?_
  refine g_ldc (v := (-2147483648)) (gIn_ts tb_597 rfl) d_Ij_compareUnsigned_1 ?_
  refine g_iadd d_Ij_compareUnsigned_3 ?_
  refine g_iload_n d_Ij_compareUnsigned_4 rfl ?_
  refine g_ldc (v := (-2147483648)) (gIn_ts tb_597 rfl) d_Ij_compareUnsigned_5 ?_
  refine g_iadd d_Ij_compareUnsigned_7 ?_
  obtain ⟨q8, hq8, h⟩ := it_b h
  refine g_callS (As := [.int (x1_ + (-2147483648)), .int (y1_ + (-2147483648))]) (rest := []) (st2 := [.int q8]) (ws2 := []) (c_Ij_compare l D K (x1_ + (-2147483648)) (y1_ + (-2147483648)) q8 hq8) (cs_Ij_259 rfl rfl ⟨Nat.le_of_ble_eq_true rfl, Nat.le_of_ble_eq_true rfl⟩) (gOver.rd [] (by decide) rfl) (Nat.le_of_ble_eq_true rfl) ⟨Nat.le_of_ble_eq_true rfl, Nat.le_of_ble_eq_true rfl⟩ d_Ij_compareUnsigned_8 rfl rfl ?_
  obtain rfl := Option.some.inj h
  exact g_iret rfl d_Ij_compareUnsigned_11
