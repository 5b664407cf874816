def f_Rk_isSmall (o1 : Int32) : Option (Int32) := if o1 < 48 then (some 0) else (if 79 < o1 then (some 0) else (some 1))
set_option maxRecDepth 100000 in
set_option maxHeartbeats 4000000 in
theorem c_Rk_isSmall (l : Launch) (D : va_G) (K : Nat → ClassId) (o1 : Int32) (o : Int32) (h : f_Rk_isSmall o1 = some o) : Ct l y_Rk_isSmall b_Rk_isSmall 1 (some .boolean) { frames := 0, cells := 0, slots := 0, locals := 0 } D vwCl (xTy K) [.int o1] [] (some (.int o)) [] := by
  refine Ct.ofG (by decide) (Nat.le_of_ble_eq_true rfl) ?_
  refine g_L (L' := [(0, .int o1)]) rfl ?_
  unfold f_Rk_isSmall at h
  refine g_iload_n d_Rk_isSmall_0 rfl ?_
  refine g_bipush (v := 48) d_Rk_isSmall_1 (by decide) ?_
  refine g_icmp_lt (tgt := 16) d_Rk_isSmall_3 (by decide) (fun hc => ?_) (fun hc => ?_)
  · replace h := it_t hc h
    refine g_iconst (v := 0) d_Rk_isSmall_16 (by decide) ?_
    obtain rfl := Option.some.inj h
    exact g_zret (v := 0) rfl (by decide) d_Rk_isSmall_17
  · replace h := it_f hc h
    refine g_iload_n d_Rk_isSmall_6 rfl ?_
    refine g_bipush (v := 79) d_Rk_isSmall_7 (by decide) ?_
    refine g_icmp_gt (tgt := 16) d_Rk_isSmall_9 (by decide) (fun hc => ?_) (fun hc => ?_)
    · replace h := it_t hc h
      refine g_iconst (v := 0) d_Rk_isSmall_16 (by decide) ?_
      obtain rfl := Option.some.inj h
      exact g_zret (v := 0) rfl (by decide) d_Rk_isSmall_17
    · replace h := it_f hc h
      refine g_iconst (v := 1) d_Rk_isSmall_12 (by decide) ?_
      refine g_goto (tgt := 17) d_Rk_isSmall_13 (by decide) ?_
      obtain rfl := Option.some.inj h
      exact g_zret (v := 1) rfl (by decide) d_Rk_isSmall_17
def f_Rk_isRegister (o1 : Int32) : Option (Int32) := if o1 < 112 then (some 0) else (if 119 < o1 then (some 0) else (some 1))
set_option maxRecDepth 100000 in
set_option maxHeartbeats 4000000 in
theorem c_Rk_isRegister (l : Launch) (D : va_G) (K : Nat → ClassId) (o1 : Int32) (o : Int32) (h : f_Rk_isRegister o1 = some o) : Ct l y_Rk_isRegister b_Rk_isRegister 1 (some .boolean) { frames := 0, cells := 0, slots := 0, locals := 0 } D vwCl (xTy K) [.int o1] [] (some (.int o)) [] := by
  refine Ct.ofG (by decide) (Nat.le_of_ble_eq_true rfl) ?_
  refine g_L (L' := [(0, .int o1)]) rfl ?_
  unfold f_Rk_isRegister at h
  refine g_iload_n d_Rk_isRegister_0 rfl ?_
  refine g_bipush (v := 112) d_Rk_isRegister_1 (by decide) ?_
  refine g_icmp_lt (tgt := 16) d_Rk_isRegister_3 (by decide) (fun hc => ?_) (fun hc => ?_)
  · replace h := it_t hc h
    refine g_iconst (v := 0) d_Rk_isRegister_16 (by decide) ?_
    obtain rfl := Option.some.inj h
    exact g_zret (v := 0) rfl (by decide) d_Rk_isRegister_17
  · replace h := it_f hc h
    refine g_iload_n d_Rk_isRegister_6 rfl ?_
    refine g_bipush (v := 119) d_Rk_isRegister_7 (by decide) ?_
    refine g_icmp_gt (tgt := 16) d_Rk_isRegister_9 (by decide) (fun hc => ?_) (fun hc => ?_)
    · replace h := it_t hc h
      refine g_iconst (v := 0) d_Rk_isRegister_16 (by decide) ?_
      obtain rfl := Option.some.inj h
      exact g_zret (v := 0) rfl (by decide) d_Rk_isRegister_17
    · replace h := it_f hc h
      refine g_iconst (v := 1) d_Rk_isRegister_12 (by decide) ?_
      refine g_goto (tgt := 17) d_Rk_isRegister_13 (by decide) ?_
      obtain rfl := Option.some.inj h
      exact g_zret (v := 1) rfl (by decide) d_Rk_isRegister_17
def f_Rk_depthOfCopy (o1 : Int32) (d1 : Int32) : Option (Int32) := if o1 = 18 then (some 0) else if o1 = 20 then (some 1) else if o1 = 21 then (some d1) else some (-1)
set_option maxRecDepth 100000 in
set_option maxHeartbeats 4000000 in
theorem c_Rk_depthOfCopy (l : Launch) (D : va_G) (K : Nat → ClassId) (o1 : Int32) (d1 : Int32) (o : Int32) (h : f_Rk_depthOfCopy o1 d1 = some o) : Ct l y_Rk_depthOfCopy b_Rk_depthOfCopy 2 (some .int) { frames := 0, cells := 0, slots := 0, locals := 0 } D vwCl (xTy K) [.int o1, .int d1] [] (some (.int o)) [] := by
  refine Ct.ofG (by decide) (Nat.le_of_ble_eq_true rfl) ?_
  refine g_L (L' := [(0, .int o1), (1, .int d1)]) rfl ?_
  unfold f_Rk_depthOfCopy at h
  refine g_iload_n d_Rk_depthOfCopy_0 rfl ?_
  by_cases hc1_32 : o1 = 18
  · replace h := it_t hc1_32 h
    refine g_table (off := 31) (tgt := 32) d_Rk_depthOfCopy_1 (by decide) (by rw [hc1_32]; decide +kernel) (by decide) ?_
    refine g_iconst (v := 0) d_Rk_depthOfCopy_32 (by decide) ?_
    obtain rfl := Option.some.inj h
    exact g_iret rfl d_Rk_depthOfCopy_33
  replace h := it_f hc1_32 h
  by_cases hc1_34 : o1 = 20
  · replace h := it_t hc1_34 h
    refine g_table (off := 33) (tgt := 34) d_Rk_depthOfCopy_1 (by decide) (by rw [hc1_34]; decide +kernel) (by decide) ?_
    refine g_iconst (v := 1) d_Rk_depthOfCopy_34 (by decide) ?_
    obtain rfl := Option.some.inj h
    exact g_iret rfl d_Rk_depthOfCopy_35
  replace h := it_f hc1_34 h
  by_cases hc1_36 : o1 = 21
  · replace h := it_t hc1_36 h
    refine g_table (off := 35) (tgt := 36) d_Rk_depthOfCopy_1 (by decide) (by rw [hc1_36]; decide +kernel) (by decide) ?_
    refine g_iload_n d_Rk_depthOfCopy_36 rfl ?_
    obtain rfl := Option.some.inj h
    exact g_iret rfl d_Rk_depthOfCopy_37
  replace h := it_f hc1_36 h
  refine g_table (off := 37) (tgt := 38) d_Rk_depthOfCopy_1 (by decide) (by simp only [gTabL]; rw [lv_osw hc1_32 (by decide)]; refine gsw_d ?_; rw [lv_osw hc1_34 (by decide)]; rw [lv_osw hc1_36 (by decide)]; rfl) (by decide) ?_
  refine g_iconst (v := (-1)) d_Rk_depthOfCopy_38 (by decide) ?_
  obtain rfl := Option.some.inj h
  exact g_iret rfl d_Rk_depthOfCopy_39
def f_Rk_neededBy (o1 : Int32) (f1 : Int32) (d1 : Int32) : Option (Int32) := if f1 = 2 then (((f_Rk_depthOfCopy o1 d1).bind fun q38 => some (q38 + 1))) else if f1 = 3 then (some 1) else if f1 = 4 then (some 2) else if f1 = 5 then (if o1 = 19 then (some 1) else (if o1 = 22 then (some 2) else (some 3))) else if f1 = 6 then (if o1 = 47 then (some 0) else (some 1)) else some 0
set_option maxRecDepth 100000 in
set_option maxHeartbeats 4000000 in
theorem c_Rk_neededBy (l : Launch) (D : va_G) (K : Nat → ClassId) (o1 : Int32) (f1 : Int32) (d1 : Int32) (o : Int32) (h : f_Rk_neededBy o1 f1 d1 = some o) : Ct l y_Rk_neededBy b_Rk_neededBy 3 (some .int) { frames := 1, cells := 0, slots := 0, locals := 21 } D vwCl (xTy K) [.int o1, .int f1, .int d1] [] (some (.int o)) [] := by
  refine Ct.ofG (by decide) (Nat.le_of_ble_eq_true rfl) ?_
  refine g_L (L' := [(0, .int o1), (1, .int f1), (2, .int d1)]) rfl ?_
  unfold f_Rk_neededBy at h
  refine g_iload_n d_Rk_neededBy_0 rfl ?_
  by_cases hc1_36 : f1 = 2
  · replace h := it_t hc1_36 h
    refine g_table (off := 35) (tgt := 36) d_Rk_neededBy_1 (by decide) (by rw [hc1_36]; decide +kernel) (by decide) ?_
    refine g_iload_n d_Rk_neededBy_36 rfl ?_
    refine g_iload_n d_Rk_neededBy_37 rfl ?_
    obtain ⟨q38, hq38, h⟩ := it_b h
    refine g_callS (As := [.int o1, .int d1]) (rest := []) (st2 := [.int q38]) (ws2 := []) (c_Rk_depthOfCopy l D K o1 d1 q38 hq38) (cs_Rk_110 rfl rfl ⟨Nat.le_of_ble_eq_true rfl, Nat.le_of_ble_eq_true rfl⟩) (gOver.rd [] (by decide) rfl) (Nat.le_of_ble_eq_true rfl) ⟨Nat.le_of_ble_eq_true rfl, Nat.le_of_ble_eq_true rfl⟩ d_Rk_neededBy_38 rfl rfl ?_
    refine g_iconst (v := 1) d_Rk_neededBy_41 (by decide) ?_
    refine g_iadd d_Rk_neededBy_42 ?_
    obtain rfl := Option.some.inj h
    exact g_iret rfl d_Rk_neededBy_43
  replace h := it_f hc1_36 h
  by_cases hc1_44 : f1 = 3
  · replace h := it_t hc1_44 h
    refine g_table (off := 43) (tgt := 44) d_Rk_neededBy_1 (by decide) (by rw [hc1_44]; decide +kernel) (by decide) ?_
    refine g_iconst (v := 1) d_Rk_neededBy_44 (by decide) ?_
    obtain rfl := Option.some.inj h
    exact g_iret rfl d_Rk_neededBy_45
  replace h := it_f hc1_44 h
  by_cases hc1_46 : f1 = 4
  · replace h := it_t hc1_46 h
    refine g_table (off := 45) (tgt := 46) d_Rk_neededBy_1 (by decide) (by rw [hc1_46]; decide +kernel) (by decide) ?_
    refine g_iconst (v := 2) d_Rk_neededBy_46 (by decide) ?_
    obtain rfl := Option.some.inj h
    exact g_iret rfl d_Rk_neededBy_47
  replace h := it_f hc1_46 h
  by_cases hc1_48 : f1 = 5
  · replace h := it_t hc1_48 h
    refine g_table (off := 47) (tgt := 48) d_Rk_neededBy_1 (by decide) (by rw [hc1_48]; decide +kernel) (by decide) ?_
    refine g_iload_n d_Rk_neededBy_48 rfl ?_
    refine g_bipush (v := 19) d_Rk_neededBy_49 (by decide) ?_
    refine g_icmp_ne (tgt := 58) d_Rk_neededBy_51 (by decide) (fun hc => ?_) (fun hc => ?_)
    · replace h := it_f hc h
      refine g_iload_n d_Rk_neededBy_58 rfl ?_
      refine g_bipush (v := 22) d_Rk_neededBy_59 (by decide) ?_
      refine g_icmp_ne (tgt := 68) d_Rk_neededBy_61 (by decide) (fun hc => ?_) (fun hc => ?_)
      · replace h := it_f hc h
        refine g_iconst (v := 3) d_Rk_neededBy_68 (by decide) ?_
        obtain rfl := Option.some.inj h
        exact g_iret rfl d_Rk_neededBy_69
      · replace h := it_t hc h
        refine g_iconst (v := 2) d_Rk_neededBy_64 (by decide) ?_
        refine g_goto (tgt := 69) d_Rk_neededBy_65 (by decide) ?_
        obtain rfl := Option.some.inj h
        exact g_iret rfl d_Rk_neededBy_69
    · replace h := it_t hc h
      refine g_iconst (v := 1) d_Rk_neededBy_54 (by decide) ?_
      refine g_goto (tgt := 69) d_Rk_neededBy_55 (by decide) ?_
      obtain rfl := Option.some.inj h
      exact g_iret rfl d_Rk_neededBy_69
  replace h := it_f hc1_48 h
  by_cases hc1_70 : f1 = 6
  · replace h := it_t hc1_70 h
    refine g_table (off := 69) (tgt := 70) d_Rk_neededBy_1 (by decide) (by rw [hc1_70]; decide +kernel) (by decide) ?_
    refine g_iload_n d_Rk_neededBy_70 rfl ?_
    refine g_bipush (v := 47) d_Rk_neededBy_71 (by decide) ?_
    refine g_icmp_ne (tgt := 80) d_Rk_neededBy_73 (by decide) (fun hc => ?_) (fun hc => ?_)
    · replace h := it_f hc h
      refine g_iconst (v := 1) d_Rk_neededBy_80 (by decide) ?_
      obtain rfl := Option.some.inj h
      exact g_iret rfl d_Rk_neededBy_81
    · replace h := it_t hc h
      refine g_iconst (v := 0) d_Rk_neededBy_76 (by decide) ?_
      refine g_goto (tgt := 81) d_Rk_neededBy_77 (by decide) ?_
      obtain rfl := Option.some.inj h
      exact g_iret rfl d_Rk_neededBy_81
  replace h := it_f hc1_70 h
  refine g_table (off := 81) (tgt := 82) d_Rk_neededBy_1 (by decide) (by simp only [gTabL]; rw [lv_osw hc1_36 (by decide), lv_osw hc1_44 (by decide), lv_osw hc1_46 (by decide), lv_osw hc1_48 (by decide), lv_osw hc1_70 (by decide)]; rfl) (by decide) ?_
  refine g_iconst (v := 0) d_Rk_neededBy_82 (by decide) ?_
  obtain rfl := Option.some.inj h
  exact g_iret rfl d_Rk_neededBy_83
def f_Rk_shifted (o1 : Int32) (x1_ : Int32) (y1_ : Int32) : Option (Int32) := if y1_ < 0 then (if o1 = 38 then (if 0 ≤ x1_ then (some 0) else (some (-1))) else (some 0)) else (if y1_ ≤ 31 then (if o1 = 36 then (some (x1_ <<< (y1_ &&& 31))) else if o1 = 37 then (some ((x1_.toUInt32 >>> (y1_.toUInt32 &&& Int32.toUInt32 31)).toInt32)) else some (x1_ >>> (y1_ &&& 31))) else (if o1 = 38 then (if 0 ≤ x1_ then (some 0) else (some (-1))) else (some 0)))
set_option maxRecDepth 100000 in
set_option maxHeartbeats 4000000 in
theorem c_Rk_shifted (l : Launch) (D : va_G) (K : Nat → ClassId) (o1 : Int32) (x1_ : Int32) (y1_ : Int32) (o : Int32) (h : f_Rk_shifted o1 x1_ y1_ = some o) : Ct l y_Rk_shifted b_Rk_shifted 3 (some .int) { frames := 0, cells := 0, slots := 0, locals := 0 } D vwCl (xTy K) [.int o1, .int x1_, .int y1_] [] (some (.int o)) [] := by
  refine Ct.ofG (by decide) (Nat.le_of_ble_eq_true rfl) ?_
  refine g_L (L' := [(0, .int o1), (1, .int x1_), (2, .int y1_)]) rfl ?_
  unfold f_Rk_shifted at h
  refine g_iload_n d_Rk_shifted_0 rfl ?_
  refine g_if_lt (tgt := 10) d_Rk_shifted_1 (by decide) (fun hc => ?_) (fun hc => ?_)
  · replace h := it_t hc h
    refine g_iload_n d_Rk_shifted_10 rfl ?_
    refine g_bipush (v := 38) d_Rk_shifted_11 (by decide) ?_
    refine g_icmp_ne (tgt := 24) d_Rk_shifted_13 (by decide) (fun hc => ?_) (fun hc => ?_)
    · replace h := it_f hc h
      refine g_iconst (v := 0) d_Rk_shifted_24 (by decide) ?_
      obtain rfl := Option.some.inj h
      exact g_iret rfl d_Rk_shifted_25
    · replace h := it_t hc h
      refine g_iload_n d_Rk_shifted_16 rfl ?_
      refine g_if_ge (tgt := 24) d_Rk_shifted_17 (by decide) (fun hc => ?_) (fun hc => ?_)
      · replace h := it_t hc h
        refine g_iconst (v := 0) d_Rk_shifted_24 (by decide) ?_
        obtain rfl := Option.some.inj h
        exact g_iret rfl d_Rk_shifted_25
      · replace h := it_f hc h
        refine g_iconst (v := (-1)) d_Rk_shifted_20 (by decide) ?_
        refine g_goto (tgt := 25) d_Rk_shifted_21 (by decide) ?_
        obtain rfl := Option.some.inj h
        exact g_iret rfl d_Rk_shifted_25
  · replace h := it_f hc h
    refine g_iload_n d_Rk_shifted_4 rfl ?_
    refine g_bipush (v := 31) d_Rk_shifted_5 (by decide) ?_
    refine g_icmp_le (tgt := 26) d_Rk_shifted_7 (by decide) (fun hc => ?_) (fun hc => ?_)
    · replace h := it_t hc h
      refine g_iload_n d_Rk_shifted_26 rfl ?_
      by_cases hc27_52 : o1 = 36
      · replace h := it_t hc27_52 h
        refine g_lookup (off := 25) (tgt := 52) d_Rk_shifted_27 (by decide) (by rw [hc27_52]; decide +kernel) (by decide) ?_
        refine g_iload_n d_Rk_shifted_52 rfl ?_
        refine g_iload_n d_Rk_shifted_53 rfl ?_
        refine g_ishl d_Rk_shifted_54 ?_
        obtain rfl := Option.some.inj h
        exact g_iret rfl d_Rk_shifted_55
      replace h := it_f hc27_52 h
      by_cases hc27_56 : o1 = 37
      · replace h := it_t hc27_56 h
        refine g_lookup (off := 29) (tgt := 56) d_Rk_shifted_27 (by decide) (by rw [hc27_56]; decide +kernel) (by decide) ?_
        refine g_iload_n d_Rk_shifted_56 rfl ?_
        refine g_iload_n d_Rk_shifted_57 rfl ?_
        refine g_iushr d_Rk_shifted_58 ?_
        obtain rfl := Option.some.inj h
        exact g_iret rfl d_Rk_shifted_59
      replace h := it_f hc27_56 h
      refine g_lookup (off := 33) (tgt := 60) d_Rk_shifted_27 (by decide) (by show Op.lookupswitch.offset _ _ _ = _; rw [lv_osw hc27_52 (by decide), lv_osw hc27_56 (by decide)]; rfl) (by decide) ?_
      refine g_iload_n d_Rk_shifted_60 rfl ?_
      refine g_iload_n d_Rk_shifted_61 rfl ?_
      refine g_ishr d_Rk_shifted_62 ?_
      obtain rfl := Option.some.inj h
      exact g_iret rfl d_Rk_shifted_63
    · replace h := it_f hc h
      refine g_iload_n d_Rk_shifted_10 rfl ?_
      refine g_bipush (v := 38) d_Rk_shifted_11 (by decide) ?_
      refine g_icmp_ne (tgt := 24) d_Rk_shifted_13 (by decide) (fun hc => ?_) (fun hc => ?_)
      · replace h := it_f hc h
        refine g_iconst (v := 0) d_Rk_shifted_24 (by decide) ?_
        obtain rfl := Option.some.inj h
        exact g_iret rfl d_Rk_shifted_25
      · replace h := it_t hc h
        refine g_iload_n d_Rk_shifted_16 rfl ?_
        refine g_if_ge (tgt := 24) d_Rk_shifted_17 (by decide) (fun hc => ?_) (fun hc => ?_)
        · replace h := it_t hc h
          refine g_iconst (v := 0) d_Rk_shifted_24 (by decide) ?_
          obtain rfl := Option.some.inj h
          exact g_iret rfl d_Rk_shifted_25
        · replace h := it_f hc h
          refine g_iconst (v := (-1)) d_Rk_shifted_20 (by decide) ?_
          refine g_goto (tgt := 25) d_Rk_shifted_21 (by decide) ?_
          obtain rfl := Option.some.inj h
          exact g_iret rfl d_Rk_shifted_25
def f_Rk_joined (o1 : Int32) (x1_ : Int32) (y1_ : Int32) : Option (Int32) := if o1 = 26 then (some (x1_ &&& y1_)) else if o1 = 27 then (if y1_ = 0 then (some 0) else (if y1_ = 0 then none else some (x1_ / y1_))) else if o1 = 28 then (some (x1_ - y1_)) else if o1 = 29 then (if y1_ = 0 then (some 0) else (if y1_ = 0 then none else some (x1_ - x1_ / y1_ * y1_))) else if o1 = 30 then (some (x1_ * y1_)) else if o1 = 33 then (some (x1_ ||| y1_)) else if o1 = 34 then (some (x1_ + y1_)) else if o1 = 39 then (some (x1_ ^^^ y1_)) else ((f_Rk_shifted o1 x1_ y1_).bind fun q123 => some q123)
set_option maxRecDepth 100000 in
set_option maxHeartbeats 4000000 in
theorem c_Rk_joined (l : Launch) (D : va_G) (K : Nat → ClassId) (o1 : Int32) (x1_ : Int32) (y1_ : Int32) (o : Int32) (h : f_Rk_joined o1 x1_ y1_ = some o) : Ct l y_Rk_joined b_Rk_joined 3 (some .int) { frames := 1, cells := 0, slots := 0, locals := 22 } D vwCl (xTy K) [.int o1, .int x1_, .int y1_] [] (some (.int o)) [] := by
  refine Ct.ofG (by decide) (Nat.le_of_ble_eq_true rfl) ?_
  refine g_L (L' := [(0, .int o1), (1, .int x1_), (2, .int y1_)]) rfl ?_
  unfold f_Rk_joined at h
  refine g_iload_n d_Rk_joined_0 rfl ?_
  by_cases hc1_72 : o1 = 26
  · replace h := it_t hc1_72 h
    refine g_table (off := 71) (tgt := 72) d_Rk_joined_1 (by decide) (by rw [hc1_72]; decide +kernel) (by decide) ?_
    refine g_iload_n d_Rk_joined_72 rfl ?_
    refine g_iload_n d_Rk_joined_73 rfl ?_
    refine g_iand d_Rk_joined_74 ?_
    obtain rfl := Option.some.inj h
    exact g_iret rfl d_Rk_joined_75
  replace h := it_f hc1_72 h
  by_cases hc1_76 : o1 = 27
  · replace h := it_t hc1_76 h
    refine g_table (off := 75) (tgt := 76) d_Rk_joined_1 (by decide) (by rw [hc1_76]; decide +kernel) (by decide) ?_
    refine g_iload_n d_Rk_joined_76 rfl ?_
    refine g_if_ne (tgt := 84) d_Rk_joined_77 (by decide) (fun hc => ?_) (fun hc => ?_)
    · replace h := it_f hc h
      refine g_iload_n d_Rk_joined_84 rfl ?_
      refine g_iload_n d_Rk_joined_85 rfl ?_
      obtain ⟨hz86, h⟩ := it_n h
      refine g_idiv d_Rk_joined_86 hz86 ?_
      obtain rfl := Option.some.inj h
      exact g_iret rfl d_Rk_joined_87
    · replace h := it_t hc h
      refine g_iconst (v := 0) d_Rk_joined_80 (by decide) ?_
      refine g_goto (tgt := 87) d_Rk_joined_81 (by decide) ?_
      obtain rfl := Option.some.inj h
      exact g_iret rfl d_Rk_joined_87
  replace h := it_f hc1_76 h
  by_cases hc1_88 : o1 = 28
  · replace h := it_t hc1_88 h
    refine g_table (off := 87) (tgt := 88) d_Rk_joined_1 (by decide) (by rw [hc1_88]; decide +kernel) (by decide) ?_
    refine g_iload_n d_Rk_joined_88 rfl ?_
    refine g_iload_n d_Rk_joined_89 rfl ?_
    refine g_isub d_Rk_joined_90 ?_
    obtain rfl := Option.some.inj h
    exact g_iret rfl d_Rk_joined_91
  replace h := it_f hc1_88 h
  by_cases hc1_92 : o1 = 29
  · replace h := it_t hc1_92 h
    refine g_table (off := 91) (tgt := 92) d_Rk_joined_1 (by decide) (by rw [hc1_92]; decide +kernel) (by decide) ?_
    refine g_iload_n d_Rk_joined_92 rfl ?_
    refine g_if_ne (tgt := 100) d_Rk_joined_93 (by decide) (fun hc => ?_) (fun hc => ?_)
    · replace h := it_f hc h
      refine g_iload_n d_Rk_joined_100 rfl ?_
      refine g_iload_n d_Rk_joined_101 rfl ?_
      obtain ⟨hz102, h⟩ := it_n h
      refine g_irem d_Rk_joined_102 hz102 ?_
      obtain rfl := Option.some.inj h
      exact g_iret rfl d_Rk_joined_103
    · replace h := it_t hc h
      refine g_iconst (v := 0) d_Rk_joined_96 (by decide) ?_
      refine g_goto (tgt := 103) d_Rk_joined_97 (by decide) ?_
      obtain rfl := Option.some.inj h
      exact g_iret rfl d_Rk_joined_103
  replace h := it_f hc1_92 h
  by_cases hc1_104 : o1 = 30
  · replace h := it_t hc1_104 h
    refine g_table (off := 103) (tgt := 104) d_Rk_joined_1 (by decide) (by rw [hc1_104]; decide +kernel) (by decide) ?_
    refine g_iload_n d_Rk_joined_104 rfl ?_
    refine g_iload_n d_Rk_joined_105 rfl ?_
    refine g_imul d_Rk_joined_106 ?_
    obtain rfl := Option.some.inj h
    exact g_iret rfl d_Rk_joined_107
  replace h := it_f hc1_104 h
  by_cases hc1_108 : o1 = 33
  · replace h := it_t hc1_108 h
    refine g_table (off := 107) (tgt := 108) d_Rk_joined_1 (by decide) (by rw [hc1_108]; decide +kernel) (by decide) ?_
    refine g_iload_n d_Rk_joined_108 rfl ?_
    refine g_iload_n d_Rk_joined_109 rfl ?_
    refine g_ior d_Rk_joined_110 ?_
    obtain rfl := Option.some.inj h
    exact g_iret rfl d_Rk_joined_111
  replace h := it_f hc1_108 h
  by_cases hc1_112 : o1 = 34
  · replace h := it_t hc1_112 h
    refine g_table (off := 111) (tgt := 112) d_Rk_joined_1 (by decide) (by rw [hc1_112]; decide +kernel) (by decide) ?_
    refine g_iload_n d_Rk_joined_112 rfl ?_
    refine g_iload_n d_Rk_joined_113 rfl ?_
    refine g_iadd d_Rk_joined_114 ?_
    obtain rfl := Option.some.inj h
    exact g_iret rfl d_Rk_joined_115
  replace h := it_f hc1_112 h
  by_cases hc1_116 : o1 = 39
  · replace h := it_t hc1_116 h
    refine g_table (off := 115) (tgt := 116) d_Rk_joined_1 (by decide) (by rw [hc1_116]; decide +kernel) (by decide) ?_
    refine g_iload_n d_Rk_joined_116 rfl ?_
    refine g_iload_n d_Rk_joined_117 rfl ?_
    refine g_ixor d_Rk_joined_118 ?_
    obtain rfl := Option.some.inj h
    exact g_iret rfl d_Rk_joined_119
  replace h := it_f hc1_116 h
  refine g_table (off := 119) (tgt := 120) d_Rk_joined_1 (by decide) (by simp only [gTabL]; rw [lv_osw hc1_72 (by decide)]; rw [lv_osw hc1_76 (by decide)]; rw [lv_osw hc1_88 (by decide)]; rw [lv_osw hc1_92 (by decide)]; rw [lv_osw hc1_104 (by decide)]; refine gsw_d ?_; refine gsw_d ?_; rw [lv_osw hc1_108 (by decide)]; rw [lv_osw hc1_112 (by decide)]; refine gsw_d ?_; refine gsw_d ?_; refine gsw_d ?_; refine gsw_d ?_; rw [lv_osw hc1_116 (by decide)]; rfl) (by decide) ?_
  refine g_iload_n d_Rk_joined_120 rfl ?_
  refine g_iload_n d_Rk_joined_121 rfl ?_
  refine g_iload_n d_Rk_joined_122 rfl ?_
  obtain ⟨q123, hq123, h⟩ := it_b h
  refine g_callS (As := [.int o1, .int x1_, .int y1_]) (rest := []) (st2 := [.int q123]) (ws2 := []) (c_Rk_shifted l D K o1 x1_ y1_ q123 hq123) (cs_Rk_135 rfl rfl ⟨Nat.le_of_ble_eq_true rfl, Nat.le_of_ble_eq_true rfl⟩) (gOver.rd [] (by decide) rfl) (Nat.le_of_ble_eq_true rfl) ⟨Nat.le_of_ble_eq_true rfl, Nat.le_of_ble_eq_true rfl⟩ d_Rk_joined_123 rfl rfl ?_
  obtain rfl := Option.some.inj h
  exact g_iret rfl d_Rk_joined_126
def f_Rk_compared (o1 : Int32) (x1_ : Int32) (y1_ : Int32) : Option (Int32) := if o1 = 41 then (if x1_ = y1_ then (some 1) else (some 0)) else if o1 = 42 then (if x1_ < y1_ then (some 0) else (some 1)) else if o1 = 43 then (if x1_ ≤ y1_ then (some 0) else (some 1)) else if o1 = 44 then (if y1_ < x1_ then (some 0) else (some 1)) else if o1 = 45 then (if y1_ ≤ x1_ then (some 0) else (some 1)) else if x1_ = y1_ then (some 0) else (some 1)
set_option maxRecDepth 100000 in
set_option maxHeartbeats 4000000 in
theorem c_Rk_compared (l : Launch) (D : va_G) (K : Nat → ClassId) (o1 : Int32) (x1_ : Int32) (y1_ : Int32) (o : Int32) (h : f_Rk_compared o1 x1_ y1_ = some o) : Ct l y_Rk_compared b_Rk_compared 3 (some .int) { frames := 0, cells := 0, slots := 0, locals := 0 } D vwCl (xTy K) [.int o1, .int x1_, .int y1_] [] (some (.int o)) [] := by
  refine Ct.ofG (by decide) (Nat.le_of_ble_eq_true rfl) ?_
  refine g_L (L' := [(0, .int o1), (1, .int x1_), (2, .int y1_)]) rfl ?_
  unfold f_Rk_compared at h
  refine g_iload_n d_Rk_compared_0 rfl ?_
  by_cases hc1_36 : o1 = 41
  · replace h := it_t hc1_36 h
    refine g_table (off := 35) (tgt := 36) d_Rk_compared_1 (by decide) (by rw [hc1_36]; decide +kernel) (by decide) ?_
    refine g_iload_n d_Rk_compared_36 rfl ?_
    refine g_iload_n d_Rk_compared_37 rfl ?_
    refine g_icmp_ne (tgt := 45) d_Rk_compared_38 (by decide) (fun hc => ?_) (fun hc => ?_)
    · replace h := it_f hc h
      refine g_iconst (v := 0) d_Rk_compared_45 (by decide) ?_
      obtain rfl := Option.some.inj h
      exact g_iret rfl d_Rk_compared_46
    · replace h := it_t hc h
      refine g_iconst (v := 1) d_Rk_compared_41 (by decide) ?_
      refine g_goto (tgt := 46) d_Rk_compared_42 (by decide) ?_
      obtain rfl := Option.some.inj h
      exact g_iret rfl d_Rk_compared_46
  replace h := it_f hc1_36 h
  by_cases hc1_47 : o1 = 42
  · replace h := it_t hc1_47 h
    refine g_table (off := 46) (tgt := 47) d_Rk_compared_1 (by decide) (by rw [hc1_47]; decide +kernel) (by decide) ?_
    refine g_iload_n d_Rk_compared_47 rfl ?_
    refine g_iload_n d_Rk_compared_48 rfl ?_
    refine g_icmp_lt (tgt := 56) d_Rk_compared_49 (by decide) (fun hc => ?_) (fun hc => ?_)
    · replace h := it_t hc h
      refine g_iconst (v := 0) d_Rk_compared_56 (by decide) ?_
      obtain rfl := Option.some.inj h
      exact g_iret rfl d_Rk_compared_57
    · replace h := it_f hc h
      refine g_iconst (v := 1) d_Rk_compared_52 (by decide) ?_
      refine g_goto (tgt := 57) d_Rk_compared_53 (by decide) ?_
      obtain rfl := Option.some.inj h
      exact g_iret rfl d_Rk_compared_57
  replace h := it_f hc1_47 h
  by_cases hc1_58 : o1 = 43
  · replace h := it_t hc1_58 h
    refine g_table (off := 57) (tgt := 58) d_Rk_compared_1 (by decide) (by rw [hc1_58]; decide +kernel) (by decide) ?_
    refine g_iload_n d_Rk_compared_58 rfl ?_
    refine g_iload_n d_Rk_compared_59 rfl ?_
    refine g_icmp_le (tgt := 67) d_Rk_compared_60 (by decide) (fun hc => ?_) (fun hc => ?_)
    · replace h := it_t hc h
      refine g_iconst (v := 0) d_Rk_compared_67 (by decide) ?_
      obtain rfl := Option.some.inj h
      exact g_iret rfl d_Rk_compared_68
    · replace h := it_f hc h
      refine g_iconst (v := 1) d_Rk_compared_63 (by decide) ?_
      refine g_goto (tgt := 68) d_Rk_compared_64 (by decide) ?_
      obtain rfl := Option.some.inj h
      exact g_iret rfl d_Rk_compared_68
  replace h := it_f hc1_58 h
  by_cases hc1_69 : o1 = 44
  · replace h := it_t hc1_69 h
    refine g_table (off := 68) (tgt := 69) d_Rk_compared_1 (by decide) (by rw [hc1_69]; decide +kernel) (by decide) ?_
    refine g_iload_n d_Rk_compared_69 rfl ?_
    refine g_iload_n d_Rk_compared_70 rfl ?_
    refine g_icmp_gt (tgt := 78) d_Rk_compared_71 (by decide) (fun hc => ?_) (fun hc => ?_)
    · replace h := it_t hc h
      refine g_iconst (v := 0) d_Rk_compared_78 (by decide) ?_
      obtain rfl := Option.some.inj h
      exact g_iret rfl d_Rk_compared_79
    · replace h := it_f hc h
      refine g_iconst (v := 1) d_Rk_compared_74 (by decide) ?_
      refine g_goto (tgt := 79) d_Rk_compared_75 (by decide) ?_
      obtain rfl := Option.some.inj h
      exact g_iret rfl d_Rk_compared_79
  replace h := it_f hc1_69 h
  by_cases hc1_80 : o1 = 45
  · replace h := it_t hc1_80 h
    refine g_table (off := 79) (tgt := 80) d_Rk_compared_1 (by decide) (by rw [hc1_80]; decide +kernel) (by decide) ?_
    refine g_iload_n d_Rk_compared_80 rfl ?_
    refine g_iload_n d_Rk_compared_81 rfl ?_
    refine g_icmp_ge (tgt := 89) d_Rk_compared_82 (by decide) (fun hc => ?_) (fun hc => ?_)
    · replace h := it_t hc h
      refine g_iconst (v := 0) d_Rk_compared_89 (by decide) ?_
      obtain rfl := Option.some.inj h
      exact g_iret rfl d_Rk_compared_90
    · replace h := it_f hc h
      refine g_iconst (v := 1) d_Rk_compared_85 (by decide) ?_
      refine g_goto (tgt := 90) d_Rk_compared_86 (by decide) ?_
      obtain rfl := Option.some.inj h
      exact g_iret rfl d_Rk_compared_90
  replace h := it_f hc1_80 h
  refine g_table (off := 90) (tgt := 91) d_Rk_compared_1 (by decide) (by simp only [gTabL]; rw [lv_osw hc1_36 (by decide), lv_osw hc1_47 (by decide), lv_osw hc1_58 (by decide), lv_osw hc1_69 (by decide), lv_osw hc1_80 (by decide)]; rfl) (by decide) ?_
  refine g_iload_n d_Rk_compared_91 rfl ?_
  refine g_iload_n d_Rk_compared_92 rfl ?_
  refine g_icmp_eq (tgt := 100) d_Rk_compared_93 (by decide) (fun hc => ?_) (fun hc => ?_)
  · replace h := it_t hc h
    refine g_iconst (v := 0) d_Rk_compared_100 (by decide) ?_
    obtain rfl := Option.some.inj h
    exact g_iret rfl d_Rk_compared_101
  · replace h := it_f hc h
    refine g_iconst (v := 1) d_Rk_compared_96 (by decide) ?_
    refine g_goto (tgt := 101) d_Rk_compared_97 (by decide) ?_
    obtain rfl := Option.some.inj h
    exact g_iret rfl d_Rk_compared_101
def f_Rk_clear (t_height : Int32) (t_hasCfa : Int32) : Option (Int32 × Int32) := some (0, 0)
set_option maxRecDepth 100000 in
set_option maxHeartbeats 4000000 in
theorem c_Rk_clear (l : Launch) (D : va_G) (K : Nat → ClassId) (a_t a_rd a_me a_fr a_sk : Nat) (t_height : Int32) (t_hasCfa : Int32) (t_cfa : Int32) (t_begins : Int32) (o : Int32 × Int32) (h : f_Rk_clear t_height t_hasCfa = some o) : Ct l y_Rk_clear b_Rk_clear 1 none { frames := 0, cells := 0, slots := 0, locals := 0 } D vwCl (xTy K) [.ref a_t] [(a_t, .inr (6, [.ref a_rd, .ref a_me, .ref a_fr, .ref a_sk, .int t_height, .int t_hasCfa, .int t_cfa, .int t_begins]))] none [(a_t, .inr (6, [.ref a_rd, .ref a_me, .ref a_fr, .ref a_sk, .int o.1, .int o.2, .int t_cfa, .int t_begins]))] := by
  refine Ct.ofG (by decide) (Nat.le_of_ble_eq_true rfl) ?_
  refine g_L (L' := [(0, .ref a_t)]) rfl ?_
  unfold f_Rk_clear at h
  refine g_aload_n d_Rk_clear_0 rfl ?_
  refine g_iconst (v := 0) d_Rk_clear_1 (by decide) ?_
  refine pf_Rk_27 0 rfl (v := .int 0) rfl rfl (Nat.le_of_ble_eq_true rfl) (ws' := [(a_t, .inr (6, [.ref a_rd, .ref a_me, .ref a_fr, .ref a_sk, .int 0, .int t_hasCfa, .int t_cfa, .int t_begins]))]) rfl d_Rk_clear_2 ?_
  refine g_aload_n d_Rk_clear_5 rfl ?_
  refine g_iconst (v := 0) d_Rk_clear_6 (by decide) ?_
  refine pf_Rk_31 0 rfl (v := .int 0) (by decide) (by decide) (Nat.le_of_ble_eq_true rfl) (ws' := [(a_t, .inr (6, [.ref a_rd, .ref a_me, .ref a_fr, .ref a_sk, .int 0, .int 0, .int t_cfa, .int t_begins]))]) rfl d_Rk_clear_7 ?_
  obtain rfl := Option.some.inj h
  exact g_vret rfl d_Rk_clear_10
def f_Rk_push (t_height : Int32) (sk : Nat → Int32) (n1 : Int32) : Option (Int32 × (Nat → Int32)) := if 16 ≤ t_height then (some (t_height, sk)) else (if t_height < 0 ∨ 16 ≤ t_height.toNatClampNeg then none else some (t_height + 1, upd sk t_height.toNatClampNeg n1))
set_option maxRecDepth 100000 in
set_option maxHeartbeats 4000000 in
theorem c_Rk_push (l : Launch) (D : va_G) (K : Nat → ClassId) (a_t a_rd a_me a_fr a_sk : Nat) (t_height : Int32) (t_hasCfa : Int32) (t_cfa : Int32) (t_begins : Int32) (sk : Nat → Int32) (n1 : Int32) (o : Int32 × (Nat → Int32)) (h : f_Rk_push t_height sk n1 = some o) : Ct l y_Rk_push b_Rk_push 2 none { frames := 0, cells := 0, slots := 0, locals := 0 } D vwCl (xTy K) [.ref a_t, .int n1] [(a_t, .inr (6, [.ref a_rd, .ref a_me, .ref a_fr, .ref a_sk, .int t_height, .int t_hasCfa, .int t_cfa, .int t_begins])), (a_sk, .inl (K 1, 16, .inl sk))] none [(a_t, .inr (6, [.ref a_rd, .ref a_me, .ref a_fr, .ref a_sk, .int o.1, .int t_hasCfa, .int t_cfa, .int t_begins])), (a_sk, .inl (K 1, 16, .inl o.2))] := by
  refine Ct.ofG (by decide) (Nat.le_of_ble_eq_true rfl) ?_
  refine g_L (L' := [(0, .ref a_t), (1, .int n1)]) rfl ?_
  unfold f_Rk_push at h
  refine g_aload_n d_Rk_push_0 rfl ?_
  refine gf_Rk_27 0 rfl (v := .int t_height) rfl d_Rk_push_1 ?_
  refine g_bipush (v := 16) d_Rk_push_4 (by decide) ?_
  refine g_icmp_ge (tgt := 29) d_Rk_push_6 (by decide) (fun hc => ?_) (fun hc => ?_)
  · replace h := it_t hc h
    obtain rfl := Option.some.inj h
    exact g_vret rfl d_Rk_push_29
  · replace h := it_f hc h
    refine g_aload_n d_Rk_push_9 rfl ?_
    refine gf_Rk_23 0 rfl (v := .ref a_sk) rfl d_Rk_push_10 ?_
    refine g_aload_n d_Rk_push_13 rfl ?_
    refine gf_Rk_27 0 rfl (v := .int t_height) rfl d_Rk_push_14 ?_
    refine g_iload_n d_Rk_push_17 rfl ?_
    obtain ⟨hi18, h⟩ := it_in h
    refine g_iast 1 1 (ws' := [(a_t, .inr (6, [.ref a_rd, .ref a_me, .ref a_fr, .ref a_sk, .int t_height, .int t_hasCfa, .int t_cfa, .int t_begins])), (a_sk, .inl (K 1, 16, .inl (upd sk t_height.toNatClampNeg n1)))]) d_Rk_push_18 rfl rfl hi18 rfl ?_
    refine g_aload_n d_Rk_push_19 rfl ?_
    refine g_dup d_Rk_push_20 rfl ?_
    refine gf_Rk_27 0 rfl (v := .int t_height) rfl d_Rk_push_21 ?_
    refine g_iconst (v := 1) d_Rk_push_24 (by decide) ?_
    refine g_iadd d_Rk_push_25 ?_
    refine pf_Rk_27 0 rfl (v := .int (t_height + 1)) rfl rfl (Nat.le_of_ble_eq_true rfl) (ws' := [(a_t, .inr (6, [.ref a_rd, .ref a_me, .ref a_fr, .ref a_sk, .int (t_height + 1), .int t_hasCfa, .int t_cfa, .int t_begins])), (a_sk, .inl (K 1, 16, .inl (upd sk t_height.toNatClampNeg n1)))]) rfl d_Rk_push_26 ?_
    obtain rfl := Option.some.inj h
    exact g_vret rfl d_Rk_push_29
def f_Rk_giveCfa (t_height : Int32) (t_hasCfa : Int32) (t_cfa : Int32) (sk : Nat → Int32) (n1 : Int32) : Option (Int32 × Int32 × Int32 × (Nat → Int32)) := ((f_Rk_push t_height sk n1).bind fun q12 => some (q12.1, 1, n1, q12.2))
set_option maxRecDepth 100000 in
set_option maxHeartbeats 4000000 in
theorem c_Rk_giveCfa (l : Launch) (D : va_G) (K : Nat → ClassId) (a_t a_rd a_me a_fr a_sk : Nat) (t_height : Int32) (t_hasCfa : Int32) (t_cfa : Int32) (t_begins : Int32) (sk : Nat → Int32) (n1 : Int32) (o : Int32 × Int32 × Int32 × (Nat → Int32)) (h : f_Rk_giveCfa t_height t_hasCfa t_cfa sk n1 = some o) : Ct l y_Rk_giveCfa b_Rk_giveCfa 2 none { frames := 1, cells := 0, slots := 0, locals := 21 } D vwCl (xTy K) [.ref a_t, .int n1] [(a_t, .inr (6, [.ref a_rd, .ref a_me, .ref a_fr, .ref a_sk, .int t_height, .int t_hasCfa, .int t_cfa, .int t_begins])), (a_sk, .inl (K 1, 16, .inl sk))] none [(a_t, .inr (6, [.ref a_rd, .ref a_me, .ref a_fr, .ref a_sk, .int o.1, .int o.2.1, .int o.2.2.1, .int t_begins])), (a_sk, .inl (K 1, 16, .inl o.2.2.2))] := by
  refine Ct.ofG (by decide) (Nat.le_of_ble_eq_true rfl) ?_
  refine g_L (L' := [(0, .ref a_t), (1, .int n1)]) rfl ?_
  unfold f_Rk_giveCfa at h
  refine g_aload_n d_Rk_giveCfa_0 rfl ?_
  refine g_iconst (v := 1) d_Rk_giveCfa_1 (by decide) ?_
  refine pf_Rk_31 0 rfl (v := .int 1) (by decide) (by decide) (Nat.le_of_ble_eq_true rfl) (ws' := [(a_t, .inr (6, [.ref a_rd, .ref a_me, .ref a_fr, .ref a_sk, .int t_height, .int 1, .int t_cfa, .int t_begins])), (a_sk, .inl (K 1, 16, .inl sk))]) rfl d_Rk_giveCfa_2 ?_
  refine g_aload_n d_Rk_giveCfa_5 rfl ?_
  refine g_iload_n d_Rk_giveCfa_6 rfl ?_
  refine pf_Rk_35 0 rfl (v := .int n1) rfl rfl (Nat.le_of_ble_eq_true rfl) (ws' := [(a_t, .inr (6, [.ref a_rd, .ref a_me, .ref a_fr, .ref a_sk, .int t_height, .int 1, .int n1, .int t_begins])), (a_sk, .inl (K 1, 16, .inl sk))]) rfl d_Rk_giveCfa_7 ?_
  refine g_aload_n d_Rk_giveCfa_10 rfl ?_
  refine g_iload_n d_Rk_giveCfa_11 rfl ?_
  obtain ⟨q12, hq12, h⟩ := it_b h
  refine g_callV (ci := 6) (q := (xR_Rk, xF_Rk, 8)) (As := [.int n1]) (rest := []) (st2 := []) (ws2 := [(a_t, .inr (6, [.ref a_rd, .ref a_me, .ref a_fr, .ref a_sk, .int q12.1, .int 1, .int n1, .int t_begins])), (a_sk, .inl (K 1, 16, .inl q12.2))]) (c_Rk_push l D K a_t a_rd a_me a_fr a_sk t_height 1 n1 t_begins sk n1 q12 hq12) (cs_Rk_38 rfl rfl ⟨Nat.le_of_ble_eq_true rfl, Nat.le_of_ble_eq_true rfl⟩) rfl 0 rfl (gOver.mk2 [0, 1] [some 0, some 1] (by decide) (by decide) rfl rfl rfl) (Nat.le_of_ble_eq_true rfl) ⟨Nat.le_of_ble_eq_true rfl, Nat.le_of_ble_eq_true rfl⟩ d_Rk_giveCfa_12 rfl rfl ?_
  obtain rfl := Option.some.inj h
  exact g_vret rfl d_Rk_giveCfa_15
def f_Rk_top (t_height : Int32) (sk : Nat → Int32) : Option (Int32) := if t_height ≤ 0 then (some 0) else (if (t_height - 1) < 0 ∨ 16 ≤ (t_height - 1).toNatClampNeg then none else some (sk (t_height - 1).toNatClampNeg))
set_option maxRecDepth 100000 in
set_option maxHeartbeats 4000000 in
theorem c_Rk_top (l : Launch) (D : va_G) (K : Nat → ClassId) (a_t a_rd a_me a_fr a_sk : Nat) (t_height : Int32) (t_hasCfa : Int32) (t_cfa : Int32) (t_begins : Int32) (sk : Nat → Int32) (o : Int32) (h : f_Rk_top t_height sk = some o) : Ct l y_Rk_top b_Rk_top 1 (some .int) { frames := 0, cells := 0, slots := 0, locals := 0 } D vwCl (xTy K) [.ref a_t] [(a_t, .inr (6, [.ref a_rd, .ref a_me, .ref a_fr, .ref a_sk, .int t_height, .int t_hasCfa, .int t_cfa, .int t_begins])), (a_sk, .inl (K 1, 16, .inl sk))] (some (.int o)) [(a_t, .inr (6, [.ref a_rd, .ref a_me, .ref a_fr, .ref a_sk, .int t_height, .int t_hasCfa, .int t_cfa, .int t_begins])), (a_sk, .inl (K 1, 16, .inl sk))] := by
  refine Ct.ofG (by decide) (Nat.le_of_ble_eq_true rfl) ?_
  refine g_L (L' := [(0, .ref a_t)]) rfl ?_
  unfold f_Rk_top at h
  refine g_aload_n d_Rk_top_0 rfl ?_
  refine gf_Rk_27 0 rfl (v := .int t_height) rfl d_Rk_top_1 ?_
  refine g_if_le (tgt := 21) d_Rk_top_4 (by decide) (fun hc => ?_) (fun hc => ?_)
  · replace h := it_t hc h
    refine g_iconst (v := 0) d_Rk_top_21 (by decide) ?_
    obtain rfl := Option.some.inj h
    exact g_iret rfl d_Rk_top_22
  · replace h := it_f hc h
    refine g_aload_n d_Rk_top_7 rfl ?_
    refine gf_Rk_23 0 rfl (v := .ref a_sk) rfl d_Rk_top_8 ?_
    refine g_aload_n d_Rk_top_11 rfl ?_
    refine gf_Rk_27 0 rfl (v := .int t_height) rfl d_Rk_top_12 ?_
    refine g_iconst (v := 1) d_Rk_top_15 (by decide) ?_
    refine g_isub d_Rk_top_16 ?_
    obtain ⟨hi17, h⟩ := it_in h
    refine g_iald 1 1 d_Rk_top_17 rfl rfl hi17 ?_
    refine g_goto (tgt := 22) d_Rk_top_18 (by decide) ?_
    obtain rfl := Option.some.inj h
    exact g_iret rfl d_Rk_top_22
