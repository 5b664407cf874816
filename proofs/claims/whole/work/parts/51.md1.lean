def f_Md_within (v1 : Int32) (lo1 : Int32) (hi1 : Int32) : Option (Int32) := if v1 < lo1 then (some 0) else (if hi1 < v1 then (some 0) else (some 1))
set_option maxRecDepth 100000 in
set_option maxHeartbeats 4000000 in
theorem c_Md_within (l : Launch) (D : va_G) (K : Nat → ClassId) (v1 : Int32) (lo1 : Int32) (hi1 : Int32) (o : Int32) (h : f_Md_within v1 lo1 hi1 = some o) : Ct l y_Md_within b_Md_within 3 (some .boolean) { frames := 0, cells := 0, slots := 0, locals := 0 } D vwCl (xTy K) [.int v1, .int lo1, .int hi1] [] (some (.int o)) [] := by
  refine Ct.ofG (by decide) (Nat.le_of_ble_eq_true rfl) ?_
  refine g_L (L' := [(0, .int v1), (1, .int lo1), (2, .int hi1)]) rfl ?_
  unfold f_Md_within at h
  refine g_iload_n d_Md_within_0 rfl ?_
  refine g_iload_n d_Md_within_1 rfl ?_
  refine g_icmp_lt (tgt := 14) d_Md_within_2 (by decide) (fun hc => ?_) (fun hc => ?_)
  · replace h := it_t hc h
    refine g_iconst (v := 0) d_Md_within_14 (by decide) ?_
    obtain rfl := Option.some.inj h
    exact g_zret (v := 0) rfl (by decide) d_Md_within_15
  · replace h := it_f hc h
    refine g_iload_n d_Md_within_5 rfl ?_
    refine g_iload_n d_Md_within_6 rfl ?_
    refine g_icmp_gt (tgt := 14) d_Md_within_7 (by decide) (fun hc => ?_) (fun hc => ?_)
    · replace h := it_t hc h
      refine g_iconst (v := 0) d_Md_within_14 (by decide) ?_
      obtain rfl := Option.some.inj h
      exact g_zret (v := 0) rfl (by decide) d_Md_within_15
    · replace h := it_f hc h
      refine g_iconst (v := 1) d_Md_within_10 (by decide) ?_
      refine g_goto (tgt := 15) d_Md_within_11 (by decide) ?_
      obtain rfl := Option.some.inj h
      exact g_zret (v := 1) rfl (by decide) d_Md_within_15
def f_Md_isAddress (a1 : Int32) : Option (Int32) := ((f_Md_within a1 0 1020).bind fun q5 => if q5 = 0 then (some 0) else (if (4 : Int32) = 0 then none else if (a1 - a1 / 4 * 4) = 0 then (some 1) else (some 0)))
set_option maxRecDepth 100000 in
set_option maxHeartbeats 4000000 in
theorem c_Md_isAddress (l : Launch) (D : va_G) (K : Nat → ClassId) (a1 : Int32) (o : Int32) (h : f_Md_isAddress a1 = some o) : Ct l y_Md_isAddress b_Md_isAddress 1 (some .boolean) { frames := 1, cells := 0, slots := 0, locals := 22 } D vwCl (xTy K) [.int a1] [] (some (.int o)) [] := by
  refine Ct.ofG (by decide) (Nat.le_of_ble_eq_true rfl) ?_
  refine g_L (L' := [(0, .int a1)]) rfl ?_
  unfold f_Md_isAddress at h
  refine g_iload_n d_Md_isAddress_0 rfl ?_
  refine g_iconst (v := 0) d_Md_isAddress_1 (by decide) ?_
  refine g_sipush (v := 1020) d_Md_isAddress_2 (by decide) ?_
  obtain ⟨q5, hq5, h⟩ := it_b h
  refine g_callS (As := [.int a1, .int 0, .int 1020]) (rest := []) (st2 := [.int q5]) (ws2 := []) (c_Md_within l D K a1 0 1020 q5 hq5) (cs_Md_75 rfl rfl ⟨Nat.le_of_ble_eq_true rfl, Nat.le_of_ble_eq_true rfl⟩) (gOver.rd [] (by decide) rfl) (Nat.le_of_ble_eq_true rfl) ⟨Nat.le_of_ble_eq_true rfl, Nat.le_of_ble_eq_true rfl⟩ d_Md_isAddress_5 rfl rfl ?_
  refine g_if_eq (tgt := 21) d_Md_isAddress_8 (by decide) (fun hc => ?_) (fun hc => ?_)
  · replace h := it_t hc h
    refine g_iconst (v := 0) d_Md_isAddress_21 (by decide) ?_
    obtain rfl := Option.some.inj h
    exact g_zret (v := 0) rfl (by decide) d_Md_isAddress_22
  · replace h := it_f hc h
    refine g_iload_n d_Md_isAddress_11 rfl ?_
    refine g_iconst (v := 4) d_Md_isAddress_12 (by decide) ?_
    obtain ⟨hz13, h⟩ := it_n h
    refine g_irem d_Md_isAddress_13 hz13 ?_
    refine g_if_ne (tgt := 21) d_Md_isAddress_14 (by decide) (fun hc => ?_) (fun hc => ?_)
    · replace h := it_f hc h
      refine g_iconst (v := 0) d_Md_isAddress_21 (by decide) ?_
      obtain rfl := Option.some.inj h
      exact g_zret (v := 0) rfl (by decide) d_Md_isAddress_22
    · replace h := it_t hc h
      refine g_iconst (v := 1) d_Md_isAddress_17 (by decide) ?_
      refine g_goto (tgt := 22) d_Md_isAddress_18 (by decide) ?_
      obtain rfl := Option.some.inj h
      exact g_zret (v := 1) rfl (by decide) d_Md_isAddress_22
def f_Md_two (o1 : Int32) (x1_ : Int32) (y1_ : Int32) : Option (Int32) := if o1 = 26 then (some (x1_ &&& y1_)) else if o1 = 27 then (if y1_ = (-1) then (some (0 - x1_)) else (if y1_ = 0 then none else some (x1_ / y1_))) else if o1 = 28 then (some (x1_ - y1_)) else if o1 = 29 then (if y1_ = (-1) then (some 0) else (if y1_ = 0 then none else some (x1_ - x1_ / y1_ * y1_))) else if o1 = 30 then (some (x1_ * y1_)) else if o1 = 33 then (some (x1_ ||| y1_)) else if o1 = 34 then (some (x1_ + y1_)) else if o1 = 36 then (((f_Md_within y1_ 0 31).bind fun q148 => if q148 = 0 then (some 0) else (some (x1_ <<< (y1_ &&& 31))))) else if o1 = 37 then (((f_Md_within y1_ 0 31).bind fun q166 => if q166 = 0 then (some 0) else (some ((x1_.toUInt32 >>> (y1_.toUInt32 &&& Int32.toUInt32 31)).toInt32)))) else if o1 = 38 then (((f_Md_within y1_ 0 31).bind fun q184 => if q184 = 0 then (if 0 ≤ x1_ then (some 0) else (some (-1))) else (some (x1_ >>> (y1_ &&& 31))))) else if o1 = 39 then (some (x1_ ^^^ y1_)) else if o1 = 41 then (if x1_ = y1_ then (some 1) else (some 0)) else if o1 = 42 then (if x1_ < y1_ then (some 0) else (some 1)) else if o1 = 43 then (if x1_ ≤ y1_ then (some 0) else (some 1)) else if o1 = 44 then (if y1_ < x1_ then (some 0) else (some 1)) else if o1 = 45 then (if y1_ ≤ x1_ then (some 0) else (some 1)) else if x1_ = y1_ then (some 0) else (some 1)
set_option maxRecDepth 100000 in
set_option maxHeartbeats 4000000 in
theorem c_Md_two (l : Launch) (D : va_G) (K : Nat → ClassId) (o1 : Int32) (x1_ : Int32) (y1_ : Int32) (o : Int32) (h : f_Md_two o1 x1_ y1_ = some o) : Ct l y_Md_two b_Md_two 3 (some .int) { frames := 1, cells := 0, slots := 0, locals := 22 } D vwCl (xTy K) [.int o1, .int x1_, .int y1_] [] (some (.int o)) [] := by
  refine Ct.ofG (by decide) (Nat.le_of_ble_eq_true rfl) ?_
  refine g_L (L' := [(0, .int o1), (1, .int x1_), (2, .int y1_)]) rfl ?_
  unfold f_Md_two at h
  refine g_iload_n d_Md_two_0 rfl ?_
  by_cases hc1_96 : o1 = 26
  · replace h := it_t hc1_96 h
    refine g_table (off := 95) (tgt := 96) d_Md_two_1 (by decide) (by rw [hc1_96]; decide +kernel) (by decide) ?_
    refine g_iload_n d_Md_two_96 rfl ?_
    refine g_iload_n d_Md_two_97 rfl ?_
    refine g_iand d_Md_two_98 ?_
    obtain rfl := Option.some.inj h
    exact g_iret rfl d_Md_two_99
  replace h := it_f hc1_96 h
  by_cases hc1_100 : o1 = 27
  · replace h := it_t hc1_100 h
    refine g_table (off := 99) (tgt := 100) d_Md_two_1 (by decide) (by rw [hc1_100]; decide +kernel) (by decide) ?_
    refine g_iload_n d_Md_two_100 rfl ?_
    refine g_iconst (v := (-1)) d_Md_two_101 (by decide) ?_
    refine g_icmp_ne (tgt := 111) d_Md_two_102 (by decide) (fun hc => ?_) (fun hc => ?_)
    · replace h := it_f hc h
      refine g_iload_n d_Md_two_111 rfl ?_
      refine g_iload_n d_Md_two_112 rfl ?_
      obtain ⟨hz113, h⟩ := it_n h
      refine g_idiv d_Md_two_113 hz113 ?_
      obtain rfl := Option.some.inj h
      exact g_iret rfl d_Md_two_114
    · replace h := it_t hc h
      refine g_iconst (v := 0) d_Md_two_105 (by decide) ?_
      refine g_iload_n d_Md_two_106 rfl ?_
      refine g_isub d_Md_two_107 ?_
      refine g_goto (tgt := 114) d_Md_two_108 (by decide) ?_
      obtain rfl := Option.some.inj h
      exact g_iret rfl d_Md_two_114
  replace h := it_f hc1_100 h
  by_cases hc1_115 : o1 = 28
  · replace h := it_t hc1_115 h
    refine g_table (off := 114) (tgt := 115) d_Md_two_1 (by decide) (by rw [hc1_115]; decide +kernel) (by decide) ?_
    refine g_iload_n d_Md_two_115 rfl ?_
    refine g_iload_n d_Md_two_116 rfl ?_
    refine g_isub d_Md_two_117 ?_
    obtain rfl := Option.some.inj h
    exact g_iret rfl d_Md_two_118
  replace h := it_f hc1_115 h
  by_cases hc1_119 : o1 = 29
  · replace h := it_t hc1_119 h
    refine g_table (off := 118) (tgt := 119) d_Md_two_1 (by decide) (by rw [hc1_119]; decide +kernel) (by decide) ?_
    refine g_iload_n d_Md_two_119 rfl ?_
    refine g_iconst (v := (-1)) d_Md_two_120 (by decide) ?_
    refine g_icmp_ne (tgt := 128) d_Md_two_121 (by decide) (fun hc => ?_) (fun hc => ?_)
    · replace h := it_f hc h
      refine g_iload_n d_Md_two_128 rfl ?_
      refine g_iload_n d_Md_two_129 rfl ?_
      obtain ⟨hz130, h⟩ := it_n h
      refine g_irem d_Md_two_130 hz130 ?_
      obtain rfl := Option.some.inj h
      exact g_iret rfl d_Md_two_131
    · replace h := it_t hc h
      refine g_iconst (v := 0) d_Md_two_124 (by decide) ?_
      refine g_goto (tgt := 131) d_Md_two_125 (by decide) ?_
      obtain rfl := Option.some.inj h
      exact g_iret rfl d_Md_two_131
  replace h := it_f hc1_119 h
  by_cases hc1_132 : o1 = 30
  · replace h := it_t hc1_132 h
    refine g_table (off := 131) (tgt := 132) d_Md_two_1 (by decide) (by rw [hc1_132]; decide +kernel) (by decide) ?_
    refine g_iload_n d_Md_two_132 rfl ?_
    refine g_iload_n d_Md_two_133 rfl ?_
    refine g_imul d_Md_two_134 ?_
    obtain rfl := Option.some.inj h
    exact g_iret rfl d_Md_two_135
  replace h := it_f hc1_132 h
  by_cases hc1_136 : o1 = 33
  · replace h := it_t hc1_136 h
    refine g_table (off := 135) (tgt := 136) d_Md_two_1 (by decide) (by rw [hc1_136]; decide +kernel) (by decide) ?_
    refine g_iload_n d_Md_two_136 rfl ?_
    refine g_iload_n d_Md_two_137 rfl ?_
    refine g_ior d_Md_two_138 ?_
    obtain rfl := Option.some.inj h
    exact g_iret rfl d_Md_two_139
  replace h := it_f hc1_136 h
  by_cases hc1_140 : o1 = 34
  · replace h := it_t hc1_140 h
    refine g_table (off := 139) (tgt := 140) d_Md_two_1 (by decide) (by rw [hc1_140]; decide +kernel) (by decide) ?_
    refine g_iload_n d_Md_two_140 rfl ?_
    refine g_iload_n d_Md_two_141 rfl ?_
    refine g_iadd d_Md_two_142 ?_
    obtain rfl := Option.some.inj h
    exact g_iret rfl d_Md_two_143
  replace h := it_f hc1_140 h
  by_cases hc1_144 : o1 = 36
  · replace h := it_t hc1_144 h
    refine g_table (off := 143) (tgt := 144) d_Md_two_1 (by decide) (by rw [hc1_144]; decide +kernel) (by decide) ?_
    refine g_iload_n d_Md_two_144 rfl ?_
    refine g_iconst (v := 0) d_Md_two_145 (by decide) ?_
    refine g_bipush (v := 31) d_Md_two_146 (by decide) ?_
    obtain ⟨q148, hq148, h⟩ := it_b h
    refine g_callS (As := [.int y1_, .int 0, .int 31]) (rest := []) (st2 := [.int q148]) (ws2 := []) (c_Md_within l D K y1_ 0 31 q148 hq148) (cs_Md_75 rfl rfl ⟨Nat.le_of_ble_eq_true rfl, Nat.le_of_ble_eq_true rfl⟩) (gOver.rd [] (by decide) rfl) (Nat.le_of_ble_eq_true rfl) ⟨Nat.le_of_ble_eq_true rfl, Nat.le_of_ble_eq_true rfl⟩ d_Md_two_148 rfl rfl ?_
    refine g_if_eq (tgt := 160) d_Md_two_151 (by decide) (fun hc => ?_) (fun hc => ?_)
    · replace h := it_t hc h
      refine g_iconst (v := 0) d_Md_two_160 (by decide) ?_
      obtain rfl := Option.some.inj h
      exact g_iret rfl d_Md_two_161
    · replace h := it_f hc h
      refine g_iload_n d_Md_two_154 rfl ?_
      refine g_iload_n d_Md_two_155 rfl ?_
      refine g_ishl d_Md_two_156 ?_
      refine g_goto (tgt := 161) d_Md_two_157 (by decide) ?_
      obtain rfl := Option.some.inj h
      exact g_iret rfl d_Md_two_161
  replace h := it_f hc1_144 h
  by_cases hc1_162 : o1 = 37
  · replace h := it_t hc1_162 h
    refine g_table (off := 161) (tgt := 162) d_Md_two_1 (by decide) (by rw [hc1_162]; decide +kernel) (by decide) ?_
    refine g_iload_n d_Md_two_162 rfl ?_
    refine g_iconst (v := 0) d_Md_two_163 (by decide) ?_
    refine g_bipush (v := 31) d_Md_two_164 (by decide) ?_
    obtain ⟨q166, hq166, h⟩ := it_b h
    refine g_callS (As := [.int y1_, .int 0, .int 31]) (rest := []) (st2 := [.int q166]) (ws2 := []) (c_Md_within l D K y1_ 0 31 q166 hq166) (cs_Md_75 rfl rfl ⟨Nat.le_of_ble_eq_true rfl, Nat.le_of_ble_eq_true rfl⟩) (gOver.rd [] (by decide) rfl) (Nat.le_of_ble_eq_true rfl) ⟨Nat.le_of_ble_eq_true rfl, Nat.le_of_ble_eq_true rfl⟩ d_Md_two_166 rfl rfl ?_
    refine g_if_eq (tgt := 178) d_Md_two_169 (by decide) (fun hc => ?_) (fun hc => ?_)
    · replace h := it_t hc h
      refine g_iconst (v := 0) d_Md_two_178 (by decide) ?_
      obtain rfl := Option.some.inj h
      exact g_iret rfl d_Md_two_179
    · replace h := it_f hc h
      refine g_iload_n d_Md_two_172 rfl ?_
      refine g_iload_n d_Md_two_173 rfl ?_
      refine g_iushr d_Md_two_174 ?_
      refine g_goto (tgt := 179) d_Md_two_175 (by decide) ?_
      obtain rfl := Option.some.inj h
      exact g_iret rfl d_Md_two_179
  replace h := it_f hc1_162 h
  by_cases hc1_180 : o1 = 38
  · replace h := it_t hc1_180 h
    refine g_table (off := 179) (tgt := 180) d_Md_two_1 (by decide) (by rw [hc1_180]; decide +kernel) (by decide) ?_
    refine g_iload_n d_Md_two_180 rfl ?_
    refine g_iconst (v := 0) d_Md_two_181 (by decide) ?_
    refine g_bipush (v := 31) d_Md_two_182 (by decide) ?_
    obtain ⟨q184, hq184, h⟩ := it_b h
    refine g_callS (As := [.int y1_, .int 0, .int 31]) (rest := []) (st2 := [.int q184]) (ws2 := []) (c_Md_within l D K y1_ 0 31 q184 hq184) (cs_Md_75 rfl rfl ⟨Nat.le_of_ble_eq_true rfl, Nat.le_of_ble_eq_true rfl⟩) (gOver.rd [] (by decide) rfl) (Nat.le_of_ble_eq_true rfl) ⟨Nat.le_of_ble_eq_true rfl, Nat.le_of_ble_eq_true rfl⟩ d_Md_two_184 rfl rfl ?_
    refine g_if_eq (tgt := 196) d_Md_two_187 (by decide) (fun hc => ?_) (fun hc => ?_)
    · replace h := it_t hc h
      refine g_iload_n d_Md_two_196 rfl ?_
      refine g_if_ge (tgt := 204) d_Md_two_197 (by decide) (fun hc => ?_) (fun hc => ?_)
      · replace h := it_t hc h
        refine g_iconst (v := 0) d_Md_two_204 (by decide) ?_
        obtain rfl := Option.some.inj h
        exact g_iret rfl d_Md_two_205
      · replace h := it_f hc h
        refine g_iconst (v := (-1)) d_Md_two_200 (by decide) ?_
        refine g_goto (tgt := 205) d_Md_two_201 (by decide) ?_
        obtain rfl := Option.some.inj h
        exact g_iret rfl d_Md_two_205
    · replace h := it_f hc h
      refine g_iload_n d_Md_two_190 rfl ?_
      refine g_iload_n d_Md_two_191 rfl ?_
      refine g_ishr d_Md_two_192 ?_
      refine g_goto (tgt := 205) d_Md_two_193 (by decide) ?_
      obtain rfl := Option.some.inj h
      exact g_iret rfl d_Md_two_205
  replace h := it_f hc1_180 h
  by_cases hc1_206 : o1 = 39
  · replace h := it_t hc1_206 h
    refine g_table (off := 205) (tgt := 206) d_Md_two_1 (by decide) (by rw [hc1_206]; decide +kernel) (by decide) ?_
    refine g_iload_n d_Md_two_206 rfl ?_
    refine g_iload_n d_Md_two_207 rfl ?_
    refine g_ixor d_Md_two_208 ?_
    obtain rfl := Option.some.inj h
    exact g_iret rfl d_Md_two_209
  replace h := it_f hc1_206 h
  by_cases hc1_210 : o1 = 41
  · replace h := it_t hc1_210 h
    refine g_table (off := 209) (tgt := 210) d_Md_two_1 (by decide) (by rw [hc1_210]; decide +kernel) (by decide) ?_
    refine g_iload_n d_Md_two_210 rfl ?_
    refine g_iload_n d_Md_two_211 rfl ?_
    refine g_icmp_ne (tgt := 219) d_Md_two_212 (by decide) (fun hc => ?_) (fun hc => ?_)
    · replace h := it_f hc h
      refine g_iconst (v := 0) d_Md_two_219 (by decide) ?_
      obtain rfl := Option.some.inj h
      exact g_iret rfl d_Md_two_220
    · replace h := it_t hc h
      refine g_iconst (v := 1) d_Md_two_215 (by decide) ?_
      refine g_goto (tgt := 220) d_Md_two_216 (by decide) ?_
      obtain rfl := Option.some.inj h
      exact g_iret rfl d_Md_two_220
  replace h := it_f hc1_210 h
  by_cases hc1_221 : o1 = 42
  · replace h := it_t hc1_221 h
    refine g_table (off := 220) (tgt := 221) d_Md_two_1 (by decide) (by rw [hc1_221]; decide +kernel) (by decide) ?_
    refine g_iload_n d_Md_two_221 rfl ?_
    refine g_iload_n d_Md_two_222 rfl ?_
    refine g_icmp_lt (tgt := 230) d_Md_two_223 (by decide) (fun hc => ?_) (fun hc => ?_)
    · replace h := it_t hc h
      refine g_iconst (v := 0) d_Md_two_230 (by decide) ?_
      obtain rfl := Option.some.inj h
      exact g_iret rfl d_Md_two_231
    · replace h := it_f hc h
      refine g_iconst (v := 1) d_Md_two_226 (by decide) ?_
      refine g_goto (tgt := 231) d_Md_two_227 (by decide) ?_
      obtain rfl := Option.some.inj h
      exact g_iret rfl d_Md_two_231
  replace h := it_f hc1_221 h
  by_cases hc1_232 : o1 = 43
  · replace h := it_t hc1_232 h
    refine g_table (off := 231) (tgt := 232) d_Md_two_1 (by decide) (by rw [hc1_232]; decide +kernel) (by decide) ?_
    refine g_iload_n d_Md_two_232 rfl ?_
    refine g_iload_n d_Md_two_233 rfl ?_
    refine g_icmp_le (tgt := 241) d_Md_two_234 (by decide) (fun hc => ?_) (fun hc => ?_)
    · replace h := it_t hc h
      refine g_iconst (v := 0) d_Md_two_241 (by decide) ?_
      obtain rfl := Option.some.inj h
      exact g_iret rfl d_Md_two_242
    · replace h := it_f hc h
      refine g_iconst (v := 1) d_Md_two_237 (by decide) ?_
      refine g_goto (tgt := 242) d_Md_two_238 (by decide) ?_
      obtain rfl := Option.some.inj h
      exact g_iret rfl d_Md_two_242
  replace h := it_f hc1_232 h
  by_cases hc1_243 : o1 = 44
  · replace h := it_t hc1_243 h
    refine g_table (off := 242) (tgt := 243) d_Md_two_1 (by decide) (by rw [hc1_243]; decide +kernel) (by decide) ?_
    refine g_iload_n d_Md_two_243 rfl ?_
    refine g_iload_n d_Md_two_244 rfl ?_
    refine g_icmp_gt (tgt := 252) d_Md_two_245 (by decide) (fun hc => ?_) (fun hc => ?_)
    · replace h := it_t hc h
      refine g_iconst (v := 0) d_Md_two_252 (by decide) ?_
      obtain rfl := Option.some.inj h
      exact g_iret rfl d_Md_two_253
    · replace h := it_f hc h
      refine g_iconst (v := 1) d_Md_two_248 (by decide) ?_
      refine g_goto (tgt := 253) d_Md_two_249 (by decide) ?_
      obtain rfl := Option.some.inj h
      exact g_iret rfl d_Md_two_253
  replace h := it_f hc1_243 h
  by_cases hc1_254 : o1 = 45
  · replace h := it_t hc1_254 h
    refine g_table (off := 253) (tgt := 254) d_Md_two_1 (by decide) (by rw [hc1_254]; decide +kernel) (by decide) ?_
    refine g_iload_n d_Md_two_254 rfl ?_
    refine g_iload_n d_Md_two_255 rfl ?_
    refine g_icmp_ge (tgt := 263) d_Md_two_256 (by decide) (fun hc => ?_) (fun hc => ?_)
    · replace h := it_t hc h
      refine g_iconst (v := 0) d_Md_two_263 (by decide) ?_
      obtain rfl := Option.some.inj h
      exact g_iret rfl d_Md_two_264
    · replace h := it_f hc h
      refine g_iconst (v := 1) d_Md_two_259 (by decide) ?_
      refine g_goto (tgt := 264) d_Md_two_260 (by decide) ?_
      obtain rfl := Option.some.inj h
      exact g_iret rfl d_Md_two_264
  replace h := it_f hc1_254 h
  refine g_table (off := 264) (tgt := 265) d_Md_two_1 (by decide) (by simp only [gTabL]; rw [lv_osw hc1_96 (by decide)]; rw [lv_osw hc1_100 (by decide)]; rw [lv_osw hc1_115 (by decide)]; rw [lv_osw hc1_119 (by decide)]; rw [lv_osw hc1_132 (by decide)]; refine gsw_d ?_; refine gsw_d ?_; rw [lv_osw hc1_136 (by decide)]; rw [lv_osw hc1_140 (by decide)]; refine gsw_d ?_; rw [lv_osw hc1_144 (by decide)]; rw [lv_osw hc1_162 (by decide)]; rw [lv_osw hc1_180 (by decide)]; rw [lv_osw hc1_206 (by decide)]; refine gsw_d ?_; rw [lv_osw hc1_210 (by decide)]; rw [lv_osw hc1_221 (by decide)]; rw [lv_osw hc1_232 (by decide)]; rw [lv_osw hc1_243 (by decide)]; rw [lv_osw hc1_254 (by decide)]; rfl) (by decide) ?_
  refine g_iload_n d_Md_two_265 rfl ?_
  refine g_iload_n d_Md_two_266 rfl ?_
  refine g_icmp_eq (tgt := 274) d_Md_two_267 (by decide) (fun hc => ?_) (fun hc => ?_)
  · replace h := it_t hc h
    refine g_iconst (v := 0) d_Md_two_274 (by decide) ?_
    obtain rfl := Option.some.inj h
    exact g_iret rfl d_Md_two_275
  · replace h := it_f hc h
    refine g_iconst (v := 1) d_Md_two_270 (by decide) ?_
    refine g_goto (tgt := 275) d_Md_two_271 (by decide) ?_
    obtain rfl := Option.some.inj h
    exact g_iret rfl d_Md_two_275
def f_Md_isTwo (o1 : Int32) : Option (Int32) := ((f_Md_within o1 26 30).bind fun q5 => if q5 = 0 then (if o1 = 33 then (some 1) else (if o1 = 34 then (some 1) else (((f_Md_within o1 36 39).bind fun q28 => if q28 = 0 then (((f_Md_within o1 41 46).bind fun q39 => if q39 = 0 then (some 0) else (some 1))) else (some 1))))) else (some 1))
set_option maxRecDepth 100000 in
set_option maxHeartbeats 4000000 in
theorem c_Md_isTwo (l : Launch) (D : va_G) (K : Nat → ClassId) (o1 : Int32) (o : Int32) (h : f_Md_isTwo o1 = some o) : Ct l y_Md_isTwo b_Md_isTwo 1 (some .boolean) { frames := 1, cells := 0, slots := 0, locals := 22 } D vwCl (xTy K) [.int o1] [] (some (.int o)) [] := by
  refine Ct.ofG (by decide) (Nat.le_of_ble_eq_true rfl) ?_
  refine g_L (L' := [(0, .int o1)]) rfl ?_
  unfold f_Md_isTwo at h
  refine g_iload_n d_Md_isTwo_0 rfl ?_
  refine g_bipush (v := 26) d_Md_isTwo_1 (by decide) ?_
  refine g_bipush (v := 30) d_Md_isTwo_3 (by decide) ?_
  obtain ⟨q5, hq5, h⟩ := it_b h
  refine g_callS (As := [.int o1, .int 26, .int 30]) (rest := []) (st2 := [.int q5]) (ws2 := []) (c_Md_within l D K o1 26 30 q5 hq5) (cs_Md_75 rfl rfl ⟨Nat.le_of_ble_eq_true rfl, Nat.le_of_ble_eq_true rfl⟩) (gOver.rd [] (by decide) rfl) (Nat.le_of_ble_eq_true rfl) ⟨Nat.le_of_ble_eq_true rfl, Nat.le_of_ble_eq_true rfl⟩ d_Md_isTwo_5 rfl rfl ?_
  refine g_if_ne (tgt := 45) d_Md_isTwo_8 (by decide) (fun hc => ?_) (fun hc => ?_)
  · replace h := it_f hc h
    refine g_iconst (v := 1) d_Md_isTwo_45 (by decide) ?_
    refine g_goto (tgt := 50) d_Md_isTwo_46 (by decide) ?_
    obtain rfl := Option.some.inj h
    exact g_zret (v := 1) rfl (by decide) d_Md_isTwo_50
  · replace h := it_t hc h
    refine g_iload_n d_Md_isTwo_11 rfl ?_
    refine g_bipush (v := 33) d_Md_isTwo_12 (by decide) ?_
    refine g_icmp_eq (tgt := 45) d_Md_isTwo_14 (by decide) (fun hc => ?_) (fun hc => ?_)
    · replace h := it_t hc h
      refine g_iconst (v := 1) d_Md_isTwo_45 (by decide) ?_
      refine g_goto (tgt := 50) d_Md_isTwo_46 (by decide) ?_
      obtain rfl := Option.some.inj h
      exact g_zret (v := 1) rfl (by decide) d_Md_isTwo_50
    · replace h := it_f hc h
      refine g_iload_n d_Md_isTwo_17 rfl ?_
      refine g_bipush (v := 34) d_Md_isTwo_18 (by decide) ?_
      refine g_icmp_eq (tgt := 45) d_Md_isTwo_20 (by decide) (fun hc => ?_) (fun hc => ?_)
      · replace h := it_t hc h
        refine g_iconst (v := 1) d_Md_isTwo_45 (by decide) ?_
        refine g_goto (tgt := 50) d_Md_isTwo_46 (by decide) ?_
        obtain rfl := Option.some.inj h
        exact g_zret (v := 1) rfl (by decide) d_Md_isTwo_50
      · replace h := it_f hc h
        refine g_iload_n d_Md_isTwo_23 rfl ?_
        refine g_bipush (v := 36) d_Md_isTwo_24 (by decide) ?_
        refine g_bipush (v := 39) d_Md_isTwo_26 (by decide) ?_
        obtain ⟨q28, hq28, h⟩ := it_b h
        refine g_callS (As := [.int o1, .int 36, .int 39]) (rest := []) (st2 := [.int q28]) (ws2 := []) (c_Md_within l D K o1 36 39 q28 hq28) (cs_Md_75 rfl rfl ⟨Nat.le_of_ble_eq_true rfl, Nat.le_of_ble_eq_true rfl⟩) (gOver.rd [] (by decide) rfl) (Nat.le_of_ble_eq_true rfl) ⟨Nat.le_of_ble_eq_true rfl, Nat.le_of_ble_eq_true rfl⟩ d_Md_isTwo_28 rfl rfl ?_
        refine g_if_ne (tgt := 45) d_Md_isTwo_31 (by decide) (fun hc => ?_) (fun hc => ?_)
        · replace h := it_f hc h
          refine g_iconst (v := 1) d_Md_isTwo_45 (by decide) ?_
          refine g_goto (tgt := 50) d_Md_isTwo_46 (by decide) ?_
          obtain rfl := Option.some.inj h
          exact g_zret (v := 1) rfl (by decide) d_Md_isTwo_50
        · replace h := it_t hc h
          refine g_iload_n d_Md_isTwo_34 rfl ?_
          refine g_bipush (v := 41) d_Md_isTwo_35 (by decide) ?_
          refine g_bipush (v := 46) d_Md_isTwo_37 (by decide) ?_
          obtain ⟨q39, hq39, h⟩ := it_b h
          refine g_callS (As := [.int o1, .int 41, .int 46]) (rest := []) (st2 := [.int q39]) (ws2 := []) (c_Md_within l D K o1 41 46 q39 hq39) (cs_Md_75 rfl rfl ⟨Nat.le_of_ble_eq_true rfl, Nat.le_of_ble_eq_true rfl⟩) (gOver.rd [] (by decide) rfl) (Nat.le_of_ble_eq_true rfl) ⟨Nat.le_of_ble_eq_true rfl, Nat.le_of_ble_eq_true rfl⟩ d_Md_isTwo_39 rfl rfl ?_
          refine g_if_eq (tgt := 49) d_Md_isTwo_42 (by decide) (fun hc => ?_) (fun hc => ?_)
          · replace h := it_t hc h
            refine g_iconst (v := 0) d_Md_isTwo_49 (by decide) ?_
            obtain rfl := Option.some.inj h
            exact g_zret (v := 0) rfl (by decide) d_Md_isTwo_50
          · replace h := it_f hc h
            refine g_iconst (v := 1) d_Md_isTwo_45 (by decide) ?_
            refine g_goto (tgt := 50) d_Md_isTwo_46 (by decide) ?_
            obtain rfl := Option.some.inj h
            exact g_zret (v := 1) rfl (by decide) d_Md_isTwo_50
def f_Md_thrown (t_thrown : Int32) : Option (Int32) := some t_thrown
set_option maxRecDepth 100000 in
set_option maxHeartbeats 4000000 in
theorem c_Md_thrown (l : Launch) (D : va_G) (K : Nat → ClassId) (a_t a_m_bytes a_m_begins a_m_isCommon a_m_common a_m_code a_m_data a_m_back a_m_first a_m_range a_m_from a_m_to a_m_row a_m_commonRow a_m_kept a_m_stack a_m_memory a_m_registers a_m_next : Nat) (t_thrown : Int32) (t_size : Int32) (t_entries : Int32) (t_at : Int32) (t_limit : Int32) (t_bad : Int32) (t_keptRows : Int32) (t_place : Int32) (t_height : Int32) (t_reckoned : Int32) (t_value : Int32) (t_known : Int32) (t_pc : Int32) (t_unwound : Int32) (o : Int32) (h : f_Md_thrown t_thrown = some o) : Ct l y_Md_thrown b_Md_thrown 1 (some .int) { frames := 0, cells := 0, slots := 0, locals := 0 } D vwCl (xTy K) [.ref a_t] [(a_t, .inr (11, [.int t_thrown, .ref a_m_bytes, .int t_size, .int t_entries, .ref a_m_begins, .ref a_m_isCommon, .ref a_m_common, .ref a_m_code, .ref a_m_data, .ref a_m_back, .ref a_m_first, .ref a_m_range, .ref a_m_from, .ref a_m_to, .int t_at, .int t_limit, .int t_bad, .ref a_m_row, .ref a_m_commonRow, .ref a_m_kept, .int t_keptRows, .int t_place, .ref a_m_stack, .int t_height, .int t_reckoned, .int t_value, .ref a_m_memory, .ref a_m_registers, .int t_known, .int t_pc, .int t_unwound, .ref a_m_next]))] (some (.int o)) [(a_t, .inr (11, [.int t_thrown, .ref a_m_bytes, .int t_size, .int t_entries, .ref a_m_begins, .ref a_m_isCommon, .ref a_m_common, .ref a_m_code, .ref a_m_data, .ref a_m_back, .ref a_m_first, .ref a_m_range, .ref a_m_from, .ref a_m_to, .int t_at, .int t_limit, .int t_bad, .ref a_m_row, .ref a_m_commonRow, .ref a_m_kept, .int t_keptRows, .int t_place, .ref a_m_stack, .int t_height, .int t_reckoned, .int t_value, .ref a_m_memory, .ref a_m_registers, .int t_known, .int t_pc, .int t_unwound, .ref a_m_next]))] := by
  refine Ct.ofG (by decide) (Nat.le_of_ble_eq_true rfl) ?_
  refine g_L (L' := [(0, .ref a_t)]) rfl ?_
  unfold f_Md_thrown at h
  refine g_aload_n d_Md_thrown_0 rfl ?_
  refine gf_Md_69 0 rfl (v := .int t_thrown) rfl d_Md_thrown_1 ?_
  obtain rfl := Option.some.inj h
  exact g_iret rfl d_Md_thrown_4
def f_Md_feed_32 : Nat → Int32 → Int32 → (Nat → Int32) → Int32 → Int32 → Option (Int32 × Int32 × Int32 × (Nat → Int32))
  | 0, _, _, _, _, _ => none
  | n + 1, t_thrown, t_size, m_bytes, x1, x2 => if 4 ≤ x2 then (some (t_size, t_thrown, t_size, m_bytes)) else (if t_size < 0 ∨ 512 ≤ t_size.toNatClampNeg then none else f_Md_feed_32 n t_thrown (t_size + 1) (upd m_bytes t_size.toNatClampNeg ((x1 >>> ((8 * x2) &&& 31)) &&& 255)) x1 (x2 + 1))
set_option maxRecDepth 100000 in
set_option maxHeartbeats 4000000 in
theorem j_Md_feed_32 (l : Launch) (D : va_G) (K : Nat → ClassId) (a_t a_m_bytes a_m_begins a_m_isCommon a_m_common a_m_code a_m_data a_m_back a_m_first a_m_range a_m_from a_m_to a_m_row a_m_commonRow a_m_kept a_m_stack a_m_memory a_m_registers a_m_next : Nat) {av : List Value} {w0 : va_W} (n : Nat) (t_thrown : Int32) (t_size : Int32) (t_entries : Int32) (t_at : Int32) (t_limit : Int32) (t_bad : Int32) (t_keptRows : Int32) (t_place : Int32) (t_height : Int32) (t_reckoned : Int32) (t_value : Int32) (t_known : Int32) (t_pc : Int32) (t_unwound : Int32) (m_bytes : Nat → Int32) (x1 : Int32) (x2 : Int32) (o : Int32 × Int32 × Int32 × (Nat → Int32)) (h : f_Md_feed_32 n t_thrown t_size m_bytes x1 x2 = some o) : Gm l y_Md_feed b_Md_feed 3 (some .int) { frames := 0, cells := 0, slots := 0, locals := 0 } D vwCl (xTy K) av w0 (CtF D vwCl av w0 (some (.int o.1)) [(a_t, .inr (11, [.int o.2.1, .ref a_m_bytes, .int o.2.2.1, .int t_entries, .ref a_m_begins, .ref a_m_isCommon, .ref a_m_common, .ref a_m_code, .ref a_m_data, .ref a_m_back, .ref a_m_first, .ref a_m_range, .ref a_m_from, .ref a_m_to, .int t_at, .int t_limit, .int t_bad, .ref a_m_row, .ref a_m_commonRow, .ref a_m_kept, .int t_keptRows, .int t_place, .ref a_m_stack, .int t_height, .int t_reckoned, .int t_value, .ref a_m_memory, .ref a_m_registers, .int t_known, .int t_pc, .int t_unwound, .ref a_m_next])), (a_m_bytes, .inl (K 1, 512, .inl o.2.2.2))]) 0 0 [(a_t, .inr (11, [.int t_thrown, .ref a_m_bytes, .int t_size, .int t_entries, .ref a_m_begins, .ref a_m_isCommon, .ref a_m_common, .ref a_m_code, .ref a_m_data, .ref a_m_back, .ref a_m_first, .ref a_m_range, .ref a_m_from, .ref a_m_to, .int t_at, .int t_limit, .int t_bad, .ref a_m_row, .ref a_m_commonRow, .ref a_m_kept, .int t_keptRows, .int t_place, .ref a_m_stack, .int t_height, .int t_reckoned, .int t_value, .ref a_m_memory, .ref a_m_registers, .int t_known, .int t_pc, .int t_unwound, .ref a_m_next])), (a_m_bytes, .inl (K 1, 512, .inl m_bytes))] [(0, .ref a_t), (1, .int x1), (2, .int x2)] 32 [] := by
  induction n generalizing t_thrown t_size t_entries t_at t_limit t_bad t_keptRows t_place t_height t_reckoned t_value t_known t_pc t_unwound m_bytes x1 x2 with
  | zero => exact absurd h (by rw [f_Md_feed_32]; exact fun z => nomatch z)
  | succ n ih =>
    rw [f_Md_feed_32] at h
    refine g_iload_n d_Md_feed_32 rfl ?_
    refine g_iconst (v := 4) d_Md_feed_33 (by decide) ?_
    refine g_icmp_ge (tgt := 72) d_Md_feed_34 (by decide) (fun hc => ?_) (fun hc => ?_)
    · replace h := it_t hc h
      refine g_aload_n d_Md_feed_72 rfl ?_
      refine gf_Md_72 0 rfl (v := .int t_size) rfl d_Md_feed_73 ?_
      obtain rfl := Option.some.inj h
      exact g_iret rfl d_Md_feed_76
    · replace h := it_f hc h
      refine g_aload_n d_Md_feed_37 rfl ?_
      refine gf_Md_7 0 rfl (v := .ref a_m_bytes) rfl d_Md_feed_38 ?_
      refine g_aload_n d_Md_feed_41 rfl ?_
      refine gf_Md_72 0 rfl (v := .int t_size) rfl d_Md_feed_42 ?_
      refine g_iload_n d_Md_feed_45 rfl ?_
      refine g_bipush (v := 8) d_Md_feed_46 (by decide) ?_
      refine g_iload_n d_Md_feed_48 rfl ?_
      refine g_imul d_Md_feed_49 ?_
      refine g_ishr d_Md_feed_50 ?_
      refine g_sipush (v := 255) d_Md_feed_51 (by decide) ?_
      refine g_iand d_Md_feed_54 ?_
      obtain ⟨hi55, h⟩ := it_in h
      refine g_iast 1 1 (ws' := [(a_t, .inr (11, [.int t_thrown, .ref a_m_bytes, .int t_size, .int t_entries, .ref a_m_begins, .ref a_m_isCommon, .ref a_m_common, .ref a_m_code, .ref a_m_data, .ref a_m_back, .ref a_m_first, .ref a_m_range, .ref a_m_from, .ref a_m_to, .int t_at, .int t_limit, .int t_bad, .ref a_m_row, .ref a_m_commonRow, .ref a_m_kept, .int t_keptRows, .int t_place, .ref a_m_stack, .int t_height, .int t_reckoned, .int t_value, .ref a_m_memory, .ref a_m_registers, .int t_known, .int t_pc, .int t_unwound, .ref a_m_next])), (a_m_bytes, .inl (K 1, 512, .inl (upd m_bytes t_size.toNatClampNeg ((x1 >>> ((8 * x2) &&& 31)) &&& 255))))]) d_Md_feed_55 rfl rfl hi55 rfl ?_
      refine g_aload_n d_Md_feed_56 rfl ?_
      refine g_dup d_Md_feed_57 rfl ?_
      refine gf_Md_72 0 rfl (v := .int t_size) rfl d_Md_feed_58 ?_
      refine g_iconst (v := 1) d_Md_feed_61 (by decide) ?_
      refine g_iadd d_Md_feed_62 ?_
      refine pf_Md_72 0 rfl (v := .int (t_size + 1)) rfl rfl (Nat.le_of_ble_eq_true rfl) (ws' := [(a_t, .inr (11, [.int t_thrown, .ref a_m_bytes, .int (t_size + 1), .int t_entries, .ref a_m_begins, .ref a_m_isCommon, .ref a_m_common, .ref a_m_code, .ref a_m_data, .ref a_m_back, .ref a_m_first, .ref a_m_range, .ref a_m_from, .ref a_m_to, .int t_at, .int t_limit, .int t_bad, .ref a_m_row, .ref a_m_commonRow, .ref a_m_kept, .int t_keptRows, .int t_place, .ref a_m_stack, .int t_height, .int t_reckoned, .int t_value, .ref a_m_memory, .ref a_m_registers, .int t_known, .int t_pc, .int t_unwound, .ref a_m_next])), (a_m_bytes, .inl (K 1, 512, .inl (upd m_bytes t_size.toNatClampNeg ((x1 >>> ((8 * x2) &&& 31)) &&& 255))))]) rfl d_Md_feed_63 ?_
      refine g_iinc (k := 2) (v := x2 + 1) (L' := [(2, .int (x2 + 1)), (0, .ref a_t), (1, .int x1)]) d_Md_feed_66 rfl (by first | rfl | decide) (by decide) rfl ?_
      refine g_goto (tgt := 32) d_Md_feed_69 (by decide) ?_
      refine g_lsub (L' := [(0, .ref a_t), (1, .int x1), (2, .int (x2 + 1))]) [1, 2, 0] rfl ?_
      exact ih t_thrown (t_size + 1) t_entries t_at t_limit t_bad t_keptRows t_place t_height t_reckoned t_value t_known t_pc t_unwound (upd m_bytes t_size.toNatClampNeg ((x1 >>> ((8 * x2) &&& 31)) &&& 255)) x1 (x2 + 1) h
def f_Md_feed (t_thrown : Int32) (t_size : Int32) (m_bytes : Nat → Int32) (f1 : Int32) : Option (Int32 × Int32 × Int32 × (Nat → Int32)) := if (t_size + 4) ≤ 512 then (f_Md_feed_32 LF 0 t_size m_bytes f1 0) else (some (0, 1, t_size, m_bytes))
set_option maxRecDepth 100000 in
set_option maxHeartbeats 4000000 in
theorem c_Md_feed (l : Launch) (D : va_G) (K : Nat → ClassId) (a_t a_m_bytes a_m_begins a_m_isCommon a_m_common a_m_code a_m_data a_m_back a_m_first a_m_range a_m_from a_m_to a_m_row a_m_commonRow a_m_kept a_m_stack a_m_memory a_m_registers a_m_next : Nat) (t_thrown : Int32) (t_size : Int32) (t_entries : Int32) (t_at : Int32) (t_limit : Int32) (t_bad : Int32) (t_keptRows : Int32) (t_place : Int32) (t_height : Int32) (t_reckoned : Int32) (t_value : Int32) (t_known : Int32) (t_pc : Int32) (t_unwound : Int32) (m_bytes : Nat → Int32) (f1 : Int32) (o : Int32 × Int32 × Int32 × (Nat → Int32)) (h : f_Md_feed t_thrown t_size m_bytes f1 = some o) : Ct l y_Md_feed b_Md_feed 3 (some .int) { frames := 0, cells := 0, slots := 0, locals := 0 } D vwCl (xTy K) [.ref a_t, .int f1] [(a_t, .inr (11, [.int t_thrown, .ref a_m_bytes, .int t_size, .int t_entries, .ref a_m_begins, .ref a_m_isCommon, .ref a_m_common, .ref a_m_code, .ref a_m_data, .ref a_m_back, .ref a_m_first, .ref a_m_range, .ref a_m_from, .ref a_m_to, .int t_at, .int t_limit, .int t_bad, .ref a_m_row, .ref a_m_commonRow, .ref a_m_kept, .int t_keptRows, .int t_place, .ref a_m_stack, .int t_height, .int t_reckoned, .int t_value, .ref a_m_memory, .ref a_m_registers, .int t_known, .int t_pc, .int t_unwound, .ref a_m_next])), (a_m_bytes, .inl (K 1, 512, .inl m_bytes))] (some (.int o.1)) [(a_t, .inr (11, [.int o.2.1, .ref a_m_bytes, .int o.2.2.1, .int t_entries, .ref a_m_begins, .ref a_m_isCommon, .ref a_m_common, .ref a_m_code, .ref a_m_data, .ref a_m_back, .ref a_m_first, .ref a_m_range, .ref a_m_from, .ref a_m_to, .int t_at, .int t_limit, .int t_bad, .ref a_m_row, .ref a_m_commonRow, .ref a_m_kept, .int t_keptRows, .int t_place, .ref a_m_stack, .int t_height, .int t_reckoned, .int t_value, .ref a_m_memory, .ref a_m_registers, .int t_known, .int t_pc, .int t_unwound, .ref a_m_next])), (a_m_bytes, .inl (K 1, 512, .inl o.2.2.2))] := by
  refine Ct.ofG (by decide) (Nat.le_of_ble_eq_true rfl) ?_
  refine g_L (L' := [(0, .ref a_t), (1, .int f1)]) rfl ?_
  unfold f_Md_feed at h
  refine g_aload_n d_Md_feed_0 rfl ?_
  refine g_aload_n d_Md_feed_1 rfl ?_
  refine gf_Md_72 0 rfl (v := .int t_size) rfl d_Md_feed_2 ?_
  refine g_iconst (v := 4) d_Md_feed_5 (by decide) ?_
  refine g_iadd d_Md_feed_6 ?_
  refine g_sipush (v := 512) d_Md_feed_7 (by decide) ?_
  refine g_icmp_le (tgt := 17) d_Md_feed_10 (by decide) (fun hc => ?_) (fun hc => ?_)
  · replace h := it_t hc h
    refine g_iconst (v := 0) d_Md_feed_17 (by decide) ?_
    refine pf_Md_69 0 rfl (v := .int 0) rfl rfl (Nat.le_of_ble_eq_true rfl) (ws' := [(a_t, .inr (11, [.int 0, .ref a_m_bytes, .int t_size, .int t_entries, .ref a_m_begins, .ref a_m_isCommon, .ref a_m_common, .ref a_m_code, .ref a_m_data, .ref a_m_back, .ref a_m_first, .ref a_m_range, .ref a_m_from, .ref a_m_to, .int t_at, .int t_limit, .int t_bad, .ref a_m_row, .ref a_m_commonRow, .ref a_m_kept, .int t_keptRows, .int t_place, .ref a_m_stack, .int t_height, .int t_reckoned, .int t_value, .ref a_m_memory, .ref a_m_registers, .int t_known, .int t_pc, .int t_unwound, .ref a_m_next])), (a_m_bytes, .inl (K 1, 512, .inl m_bytes))]) rfl d_Md_feed_18 ?_
    refine g_aload_n d_Md_feed_21 rfl ?_
    refine gf_Md_69 0 rfl (v := .int 0) rfl d_Md_feed_22 ?_
    refine g_if_eq (tgt := 30) d_Md_feed_25 (by decide) (fun hc => ?_) (fun hc => ?_)
    · skip
      refine g_iconst (v := 0) d_Md_feed_30 (by decide) ?_
      refine g_istore_n (L' := [(2, .int 0), (0, .ref a_t), (1, .int f1)]) d_Md_feed_31 (by decide) rfl ?_
      refine g_lsub (L' := [(0, .ref a_t), (1, .int f1), (2, .int 0)]) [1, 2, 0] rfl ?_
      exact j_Md_feed_32 l D K a_t a_m_bytes a_m_begins a_m_isCommon a_m_common a_m_code a_m_data a_m_back a_m_first a_m_range a_m_from a_m_to a_m_row a_m_commonRow a_m_kept a_m_stack a_m_memory a_m_registers a_m_next LF 0 t_size t_entries t_at t_limit t_bad t_keptRows t_place t_height t_reckoned t_value t_known t_pc t_unwound m_bytes f1 0 o h
    · exact absurd hc (by decide)
  · replace h := it_f hc h
    refine g_iconst (v := 1) d_Md_feed_13 (by decide) ?_
    refine g_goto (tgt := 18) d_Md_feed_14 (by decide) ?_
    refine pf_Md_69 0 rfl (v := .int 1) rfl rfl (Nat.le_of_ble_eq_true rfl) (ws' := [(a_t, .inr (11, [.int 1, .ref a_m_bytes, .int t_size, .int t_entries, .ref a_m_begins, .ref a_m_isCommon, .ref a_m_common, .ref a_m_code, .ref a_m_data, .ref a_m_back, .ref a_m_first, .ref a_m_range, .ref a_m_from, .ref a_m_to, .int t_at, .int t_limit, .int t_bad, .ref a_m_row, .ref a_m_commonRow, .ref a_m_kept, .int t_keptRows, .int t_place, .ref a_m_stack, .int t_height, .int t_reckoned, .int t_value, .ref a_m_memory, .ref a_m_registers, .int t_known, .int t_pc, .int t_unwound, .ref a_m_next])), (a_m_bytes, .inl (K 1, 512, .inl m_bytes))]) rfl d_Md_feed_18 ?_
    refine g_aload_n d_Md_feed_21 rfl ?_
    refine gf_Md_69 0 rfl (v := .int 1) rfl d_Md_feed_22 ?_
    refine g_if_eq (tgt := 30) d_Md_feed_25 (by decide) (fun hc => ?_) (fun hc => ?_)
    · exact absurd hc (by decide)
    · skip
      refine g_iconst (v := 0) d_Md_feed_28 (by decide) ?_
      obtain rfl := Option.some.inj h
      exact g_iret rfl d_Md_feed_29
def f_Md_end (t_thrown : Int32) (t_size : Int32) (n1 : Int32) : Option (Int32 × Int32) := ((f_Md_within n1 0 t_size).bind fun q7 => if q7 = 0 then (some (1, t_size)) else (some (0, n1)))
set_option maxRecDepth 100000 in
set_option maxHeartbeats 4000000 in
theorem c_Md_end (l : Launch) (D : va_G) (K : Nat → ClassId) (a_t a_m_bytes a_m_begins a_m_isCommon a_m_common a_m_code a_m_data a_m_back a_m_first a_m_range a_m_from a_m_to a_m_row a_m_commonRow a_m_kept a_m_stack a_m_memory a_m_registers a_m_next : Nat) (t_thrown : Int32) (t_size : Int32) (t_entries : Int32) (t_at : Int32) (t_limit : Int32) (t_bad : Int32) (t_keptRows : Int32) (t_place : Int32) (t_height : Int32) (t_reckoned : Int32) (t_value : Int32) (t_known : Int32) (t_pc : Int32) (t_unwound : Int32) (n1 : Int32) (o : Int32 × Int32) (h : f_Md_end t_thrown t_size n1 = some o) : Ct l y_Md_end b_Md_end 2 none { frames := 1, cells := 0, slots := 0, locals := 22 } D vwCl (xTy K) [.ref a_t, .int n1] [(a_t, .inr (11, [.int t_thrown, .ref a_m_bytes, .int t_size, .int t_entries, .ref a_m_begins, .ref a_m_isCommon, .ref a_m_common, .ref a_m_code, .ref a_m_data, .ref a_m_back, .ref a_m_first, .ref a_m_range, .ref a_m_from, .ref a_m_to, .int t_at, .int t_limit, .int t_bad, .ref a_m_row, .ref a_m_commonRow, .ref a_m_kept, .int t_keptRows, .int t_place, .ref a_m_stack, .int t_height, .int t_reckoned, .int t_value, .ref a_m_memory, .ref a_m_registers, .int t_known, .int t_pc, .int t_unwound, .ref a_m_next]))] none [(a_t, .inr (11, [.int o.1, .ref a_m_bytes, .int o.2, .int t_entries, .ref a_m_begins, .ref a_m_isCommon, .ref a_m_common, .ref a_m_code, .ref a_m_data, .ref a_m_back, .ref a_m_first, .ref a_m_range, .ref a_m_from, .ref a_m_to, .int t_at, .int t_limit, .int t_bad, .ref a_m_row, .ref a_m_commonRow, .ref a_m_kept, .int t_keptRows, .int t_place, .ref a_m_stack, .int t_height, .int t_reckoned, .int t_value, .ref a_m_memory, .ref a_m_registers, .int t_known, .int t_pc, .int t_unwound, .ref a_m_next]))] := by
  refine Ct.ofG (by decide) (Nat.le_of_ble_eq_true rfl) ?_
  refine g_L (L' := [(0, .ref a_t), (1, .int n1)]) rfl ?_
  unfold f_Md_end at h
  refine g_aload_n d_Md_end_0 rfl ?_
  refine g_iload_n d_Md_end_1 rfl ?_
  refine g_iconst (v := 0) d_Md_end_2 (by decide) ?_
  refine g_aload_n d_Md_end_3 rfl ?_
  refine gf_Md_72 0 rfl (v := .int t_size) rfl d_Md_end_4 ?_
  obtain ⟨q7, hq7, h⟩ := it_b h
  refine g_callS (As := [.int n1, .int 0, .int t_size]) (rest := [.ref a_t]) (st2 := [.int q7, .ref a_t]) (ws2 := [(a_t, .inr (11, [.int t_thrown, .ref a_m_bytes, .int t_size, .int t_entries, .ref a_m_begins, .ref a_m_isCommon, .ref a_m_common, .ref a_m_code, .ref a_m_data, .ref a_m_back, .ref a_m_first, .ref a_m_range, .ref a_m_from, .ref a_m_to, .int t_at, .int t_limit, .int t_bad, .ref a_m_row, .ref a_m_commonRow, .ref a_m_kept, .int t_keptRows, .int t_place, .ref a_m_stack, .int t_height, .int t_reckoned, .int t_value, .ref a_m_memory, .ref a_m_registers, .int t_known, .int t_pc, .int t_unwound, .ref a_m_next]))]) (c_Md_within l D K n1 0 t_size q7 hq7) (cs_Md_75 rfl rfl ⟨Nat.le_of_ble_eq_true rfl, Nat.le_of_ble_eq_true rfl⟩) (gOver.rd [] (by decide) rfl) (Nat.le_of_ble_eq_true rfl) ⟨Nat.le_of_ble_eq_true rfl, Nat.le_of_ble_eq_true rfl⟩ d_Md_end_7 rfl rfl ?_
  refine g_if_eq (tgt := 17) d_Md_end_10 (by decide) (fun hc => ?_) (fun hc => ?_)
  · replace h := it_t hc h
    refine g_iconst (v := 1) d_Md_end_17 (by decide) ?_
    refine pf_Md_69 0 rfl (v := .int 1) rfl rfl (Nat.le_of_ble_eq_true rfl) (ws' := [(a_t, .inr (11, [.int 1, .ref a_m_bytes, .int t_size, .int t_entries, .ref a_m_begins, .ref a_m_isCommon, .ref a_m_common, .ref a_m_code, .ref a_m_data, .ref a_m_back, .ref a_m_first, .ref a_m_range, .ref a_m_from, .ref a_m_to, .int t_at, .int t_limit, .int t_bad, .ref a_m_row, .ref a_m_commonRow, .ref a_m_kept, .int t_keptRows, .int t_place, .ref a_m_stack, .int t_height, .int t_reckoned, .int t_value, .ref a_m_memory, .ref a_m_registers, .int t_known, .int t_pc, .int t_unwound, .ref a_m_next]))]) rfl d_Md_end_18 ?_
    refine g_aload_n d_Md_end_21 rfl ?_
    refine gf_Md_69 0 rfl (v := .int 1) rfl d_Md_end_22 ?_
    refine g_if_ne (tgt := 33) d_Md_end_25 (by decide) (fun hc => ?_) (fun hc => ?_)
    · skip
      obtain rfl := Option.some.inj h
      exact g_vret rfl d_Md_end_33
    · exact absurd hc (by decide)
  · replace h := it_f hc h
    refine g_iconst (v := 0) d_Md_end_13 (by decide) ?_
    refine g_goto (tgt := 18) d_Md_end_14 (by decide) ?_
    refine pf_Md_69 0 rfl (v := .int 0) rfl rfl (Nat.le_of_ble_eq_true rfl) (ws' := [(a_t, .inr (11, [.int 0, .ref a_m_bytes, .int t_size, .int t_entries, .ref a_m_begins, .ref a_m_isCommon, .ref a_m_common, .ref a_m_code, .ref a_m_data, .ref a_m_back, .ref a_m_first, .ref a_m_range, .ref a_m_from, .ref a_m_to, .int t_at, .int t_limit, .int t_bad, .ref a_m_row, .ref a_m_commonRow, .ref a_m_kept, .int t_keptRows, .int t_place, .ref a_m_stack, .int t_height, .int t_reckoned, .int t_value, .ref a_m_memory, .ref a_m_registers, .int t_known, .int t_pc, .int t_unwound, .ref a_m_next]))]) rfl d_Md_end_18 ?_
    refine g_aload_n d_Md_end_21 rfl ?_
    refine gf_Md_69 0 rfl (v := .int 0) rfl d_Md_end_22 ?_
    refine g_if_ne (tgt := 33) d_Md_end_25 (by decide) (fun hc => ?_) (fun hc => ?_)
    · exact absurd hc (by decide)
    · skip
      refine g_aload_n d_Md_end_28 rfl ?_
      refine g_iload_n d_Md_end_29 rfl ?_
      refine pf_Md_72 0 rfl (v := .int n1) rfl rfl (Nat.le_of_ble_eq_true rfl) (ws' := [(a_t, .inr (11, [.int 0, .ref a_m_bytes, .int n1, .int t_entries, .ref a_m_begins, .ref a_m_isCommon, .ref a_m_common, .ref a_m_code, .ref a_m_data, .ref a_m_back, .ref a_m_first, .ref a_m_range, .ref a_m_from, .ref a_m_to, .int t_at, .int t_limit, .int t_bad, .ref a_m_row, .ref a_m_commonRow, .ref a_m_kept, .int t_keptRows, .int t_place, .ref a_m_stack, .int t_height, .int t_reckoned, .int t_value, .ref a_m_memory, .ref a_m_registers, .int t_known, .int t_pc, .int t_unwound, .ref a_m_next]))]) rfl d_Md_end_30 ?_
      obtain rfl := Option.some.inj h
      exact g_vret rfl d_Md_end_33
def f_Md_spoil_20 (t_thrown : Int32) (t_size : Int32) (m_bytes : Nat → Int32) (x1 : Int32) (x2 : Int32) (s0 : Int32) : Option (Int32 × Int32 × (Nat → Int32)) := if s0 = 0 then (if x1 < 0 ∨ 512 ≤ x1.toNatClampNeg then none else if x1 < 0 ∨ 512 ≤ x1.toNatClampNeg then none else some (m_bytes x1.toNatClampNeg, s0, upd m_bytes x1.toNatClampNeg (x2 &&& 255))) else (some (0, s0, m_bytes))
set_option maxRecDepth 100000 in
set_option maxHeartbeats 4000000 in
theorem j_Md_spoil_20 (l : Launch) (D : va_G) (K : Nat → ClassId) (a_t a_m_bytes a_m_begins a_m_isCommon a_m_common a_m_code a_m_data a_m_back a_m_first a_m_range a_m_from a_m_to a_m_row a_m_commonRow a_m_kept a_m_stack a_m_memory a_m_registers a_m_next : Nat) {av : List Value} {w0 : va_W} (t_thrown : Int32) (t_size : Int32) (t_entries : Int32) (t_at : Int32) (t_limit : Int32) (t_bad : Int32) (t_keptRows : Int32) (t_place : Int32) (t_height : Int32) (t_reckoned : Int32) (t_value : Int32) (t_known : Int32) (t_pc : Int32) (t_unwound : Int32) (m_bytes : Nat → Int32) (x1 : Int32) (x2 : Int32) (s0 : Int32) (o : Int32 × Int32 × (Nat → Int32)) (h : f_Md_spoil_20 t_thrown t_size m_bytes x1 x2 s0 = some o) : Gm l y_Md_spoil b_Md_spoil 4 (some .int) { frames := 1, cells := 0, slots := 0, locals := 22 } D vwCl (xTy K) av w0 (CtF D vwCl av w0 (some (.int o.1)) [(a_t, .inr (11, [.int o.2.1, .ref a_m_bytes, .int t_size, .int t_entries, .ref a_m_begins, .ref a_m_isCommon, .ref a_m_common, .ref a_m_code, .ref a_m_data, .ref a_m_back, .ref a_m_first, .ref a_m_range, .ref a_m_from, .ref a_m_to, .int t_at, .int t_limit, .int t_bad, .ref a_m_row, .ref a_m_commonRow, .ref a_m_kept, .int t_keptRows, .int t_place, .ref a_m_stack, .int t_height, .int t_reckoned, .int t_value, .ref a_m_memory, .ref a_m_registers, .int t_known, .int t_pc, .int t_unwound, .ref a_m_next])), (a_m_bytes, .inl (K 1, 512, .inl o.2.2))]) 0 0 [(a_t, .inr (11, [.int t_thrown, .ref a_m_bytes, .int t_size, .int t_entries, .ref a_m_begins, .ref a_m_isCommon, .ref a_m_common, .ref a_m_code, .ref a_m_data, .ref a_m_back, .ref a_m_first, .ref a_m_range, .ref a_m_from, .ref a_m_to, .int t_at, .int t_limit, .int t_bad, .ref a_m_row, .ref a_m_commonRow, .ref a_m_kept, .int t_keptRows, .int t_place, .ref a_m_stack, .int t_height, .int t_reckoned, .int t_value, .ref a_m_memory, .ref a_m_registers, .int t_known, .int t_pc, .int t_unwound, .ref a_m_next])), (a_m_bytes, .inl (K 1, 512, .inl m_bytes))] [(0, .ref a_t), (1, .int x1), (2, .int x2)] 20 [.int s0, .ref a_t] := by
  unfold f_Md_spoil_20 at h
  refine pf_Md_69 0 rfl (v := .int s0) rfl rfl (Nat.le_of_ble_eq_true rfl) (ws' := [(a_t, .inr (11, [.int s0, .ref a_m_bytes, .int t_size, .int t_entries, .ref a_m_begins, .ref a_m_isCommon, .ref a_m_common, .ref a_m_code, .ref a_m_data, .ref a_m_back, .ref a_m_first, .ref a_m_range, .ref a_m_from, .ref a_m_to, .int t_at, .int t_limit, .int t_bad, .ref a_m_row, .ref a_m_commonRow, .ref a_m_kept, .int t_keptRows, .int t_place, .ref a_m_stack, .int t_height, .int t_reckoned, .int t_value, .ref a_m_memory, .ref a_m_registers, .int t_known, .int t_pc, .int t_unwound, .ref a_m_next])), (a_m_bytes, .inl (K 1, 512, .inl m_bytes))]) rfl d_Md_spoil_20 ?_
  refine g_aload_n d_Md_spoil_23 rfl ?_
  refine gf_Md_69 0 rfl (v := .int s0) rfl d_Md_spoil_24 ?_
  refine g_if_eq (tgt := 32) d_Md_spoil_27 (by decide) (fun hc => ?_) (fun hc => ?_)
  · replace h := it_t hc h
    refine g_aload_n d_Md_spoil_32 rfl ?_
    refine gf_Md_7 0 rfl (v := .ref a_m_bytes) rfl d_Md_spoil_33 ?_
    refine g_iload_n d_Md_spoil_36 rfl ?_
    obtain ⟨hi37, h⟩ := it_in h
    refine g_iald 1 1 d_Md_spoil_37 rfl rfl hi37 ?_
    refine g_istore_n (L' := [(3, .int (m_bytes x1.toNatClampNeg)), (0, .ref a_t), (1, .int x1), (2, .int x2)]) d_Md_spoil_38 (by decide) rfl ?_
    refine g_aload_n d_Md_spoil_39 rfl ?_
    refine gf_Md_7 0 rfl (v := .ref a_m_bytes) rfl d_Md_spoil_40 ?_
    refine g_iload_n d_Md_spoil_43 rfl ?_
    refine g_iload_n d_Md_spoil_44 rfl ?_
    refine g_sipush (v := 255) d_Md_spoil_45 (by decide) ?_
    refine g_iand d_Md_spoil_48 ?_
    obtain ⟨hi49, h⟩ := it_in h
    refine g_iast 1 1 (ws' := [(a_t, .inr (11, [.int s0, .ref a_m_bytes, .int t_size, .int t_entries, .ref a_m_begins, .ref a_m_isCommon, .ref a_m_common, .ref a_m_code, .ref a_m_data, .ref a_m_back, .ref a_m_first, .ref a_m_range, .ref a_m_from, .ref a_m_to, .int t_at, .int t_limit, .int t_bad, .ref a_m_row, .ref a_m_commonRow, .ref a_m_kept, .int t_keptRows, .int t_place, .ref a_m_stack, .int t_height, .int t_reckoned, .int t_value, .ref a_m_memory, .ref a_m_registers, .int t_known, .int t_pc, .int t_unwound, .ref a_m_next])), (a_m_bytes, .inl (K 1, 512, .inl (upd m_bytes x1.toNatClampNeg (x2 &&& 255))))]) d_Md_spoil_49 rfl rfl hi49 rfl ?_
    refine g_iload_n d_Md_spoil_50 rfl ?_
    obtain rfl := Option.some.inj h
    exact g_iret rfl d_Md_spoil_51
  · replace h := it_f hc h
    refine g_iconst (v := 0) d_Md_spoil_30 (by decide) ?_
    obtain rfl := Option.some.inj h
    exact g_iret rfl d_Md_spoil_31
def f_Md_spoil (t_thrown : Int32) (t_size : Int32) (m_bytes : Nat → Int32) (k1 : Int32) (b1 : Int32) : Option (Int32 × Int32 × (Nat → Int32)) := ((f_Md_within k1 0 (t_size - 1)).bind fun q9 => if q9 = 0 then (f_Md_spoil_20 t_thrown t_size m_bytes k1 b1 1) else (f_Md_spoil_20 t_thrown t_size m_bytes k1 b1 0))
set_option maxRecDepth 100000 in
set_option maxHeartbeats 4000000 in
theorem c_Md_spoil (l : Launch) (D : va_G) (K : Nat → ClassId) (a_t a_m_bytes a_m_begins a_m_isCommon a_m_common a_m_code a_m_data a_m_back a_m_first a_m_range a_m_from a_m_to a_m_row a_m_commonRow a_m_kept a_m_stack a_m_memory a_m_registers a_m_next : Nat) (t_thrown : Int32) (t_size : Int32) (t_entries : Int32) (t_at : Int32) (t_limit : Int32) (t_bad : Int32) (t_keptRows : Int32) (t_place : Int32) (t_height : Int32) (t_reckoned : Int32) (t_value : Int32) (t_known : Int32) (t_pc : Int32) (t_unwound : Int32) (m_bytes : Nat → Int32) (k1 : Int32) (b1 : Int32) (o : Int32 × Int32 × (Nat → Int32)) (h : f_Md_spoil t_thrown t_size m_bytes k1 b1 = some o) : Ct l y_Md_spoil b_Md_spoil 4 (some .int) { frames := 1, cells := 0, slots := 0, locals := 22 } D vwCl (xTy K) [.ref a_t, .int k1, .int b1] [(a_t, .inr (11, [.int t_thrown, .ref a_m_bytes, .int t_size, .int t_entries, .ref a_m_begins, .ref a_m_isCommon, .ref a_m_common, .ref a_m_code, .ref a_m_data, .ref a_m_back, .ref a_m_first, .ref a_m_range, .ref a_m_from, .ref a_m_to, .int t_at, .int t_limit, .int t_bad, .ref a_m_row, .ref a_m_commonRow, .ref a_m_kept, .int t_keptRows, .int t_place, .ref a_m_stack, .int t_height, .int t_reckoned, .int t_value, .ref a_m_memory, .ref a_m_registers, .int t_known, .int t_pc, .int t_unwound, .ref a_m_next])), (a_m_bytes, .inl (K 1, 512, .inl m_bytes))] (some (.int o.1)) [(a_t, .inr (11, [.int o.2.1, .ref a_m_bytes, .int t_size, .int t_entries, .ref a_m_begins, .ref a_m_isCommon, .ref a_m_common, .ref a_m_code, .ref a_m_data, .ref a_m_back, .ref a_m_first, .ref a_m_range, .ref a_m_from, .ref a_m_to, .int t_at, .int t_limit, .int t_bad, .ref a_m_row, .ref a_m_commonRow, .ref a_m_kept, .int t_keptRows, .int t_place, .ref a_m_stack, .int t_height, .int t_reckoned, .int t_value, .ref a_m_memory, .ref a_m_registers, .int t_known, .int t_pc, .int t_unwound, .ref a_m_next])), (a_m_bytes, .inl (K 1, 512, .inl o.2.2))] := by
  refine Ct.ofG (by decide) (Nat.le_of_ble_eq_true rfl) ?_
  refine g_L (L' := [(0, .ref a_t), (1, .int k1), (2, .int b1)]) rfl ?_
  unfold f_Md_spoil at h
  refine g_aload_n d_Md_spoil_0 rfl ?_
  refine g_iload_n d_Md_spoil_1 rfl ?_
  refine g_iconst (v := 0) d_Md_spoil_2 (by decide) ?_
  refine g_aload_n d_Md_spoil_3 rfl ?_
  refine gf_Md_72 0 rfl (v := .int t_size) rfl d_Md_spoil_4 ?_
  refine g_iconst (v := 1) d_Md_spoil_7 (by decide) ?_
  refine g_isub d_Md_spoil_8 ?_
  obtain ⟨q9, hq9, h⟩ := it_b h
  refine g_callS (As := [.int k1, .int 0, .int (t_size - 1)]) (rest := [.ref a_t]) (st2 := [.int q9, .ref a_t]) (ws2 := [(a_t, .inr (11, [.int t_thrown, .ref a_m_bytes, .int t_size, .int t_entries, .ref a_m_begins, .ref a_m_isCommon, .ref a_m_common, .ref a_m_code, .ref a_m_data, .ref a_m_back, .ref a_m_first, .ref a_m_range, .ref a_m_from, .ref a_m_to, .int t_at, .int t_limit, .int t_bad, .ref a_m_row, .ref a_m_commonRow, .ref a_m_kept, .int t_keptRows, .int t_place, .ref a_m_stack, .int t_height, .int t_reckoned, .int t_value, .ref a_m_memory, .ref a_m_registers, .int t_known, .int t_pc, .int t_unwound, .ref a_m_next])), (a_m_bytes, .inl (K 1, 512, .inl m_bytes))]) (c_Md_within l D K k1 0 (t_size - 1) q9 hq9) (cs_Md_75 rfl rfl ⟨Nat.le_of_ble_eq_true rfl, Nat.le_of_ble_eq_true rfl⟩) (gOver.rd [] (by decide) rfl) (Nat.le_of_ble_eq_true rfl) ⟨Nat.le_of_ble_eq_true rfl, Nat.le_of_ble_eq_true rfl⟩ d_Md_spoil_9 rfl rfl ?_
  refine g_if_eq (tgt := 19) d_Md_spoil_12 (by decide) (fun hc => ?_) (fun hc => ?_)
  · replace h := it_t hc h
    refine g_iconst (v := 1) d_Md_spoil_19 (by decide) ?_
    exact j_Md_spoil_20 l D K a_t a_m_bytes a_m_begins a_m_isCommon a_m_common a_m_code a_m_data a_m_back a_m_first a_m_range a_m_from a_m_to a_m_row a_m_commonRow a_m_kept a_m_stack a_m_memory a_m_registers a_m_next t_thrown t_size t_entries t_at t_limit t_bad t_keptRows t_place t_height t_reckoned t_value t_known t_pc t_unwound m_bytes k1 b1 1 o h
  · replace h := it_f hc h
    refine g_iconst (v := 0) d_Md_spoil_15 (by decide) ?_
    refine g_goto (tgt := 20) d_Md_spoil_16 (by decide) ?_
    exact j_Md_spoil_20 l D K a_t a_m_bytes a_m_begins a_m_isCommon a_m_common a_m_code a_m_data a_m_back a_m_first a_m_range a_m_from a_m_to a_m_row a_m_commonRow a_m_kept a_m_stack a_m_memory a_m_registers a_m_next t_thrown t_size t_entries t_at t_limit t_bad t_keptRows t_place t_height t_reckoned t_value t_known t_pc t_unwound m_bytes k1 b1 0 o h
def f_Md_unsigned_24 : Nat → Int32 → Int32 → Int32 → (Nat → Int32) → Int32 → Int32 → Int32 → Option (Int32 × Int32 × Int32)
  | 0, _, _, _, _, _, _, _ => none
  | n + 1, t_at, t_limit, t_bad, m_bytes, x1, x2, x3 => if x1 ≤ x3 then (some (x2, t_at + x1, t_bad)) else (if (t_at + x3) < 0 ∨ 512 ≤ (t_at + x3).toNatClampNeg then none else f_Md_unsigned_24 n t_at t_limit t_bad m_bytes x1 (x2 ||| ((m_bytes (t_at + x3).toNatClampNeg) <<< ((8 * x3) &&& 31))) (x3 + 1))
set_option maxRecDepth 100000 in
set_option maxHeartbeats 4000000 in
theorem j_Md_unsigned_24 (l : Launch) (D : va_G) (K : Nat → ClassId) (a_t a_m_bytes a_m_begins a_m_isCommon a_m_common a_m_code a_m_data a_m_back a_m_first a_m_range a_m_from a_m_to a_m_row a_m_commonRow a_m_kept a_m_stack a_m_memory a_m_registers a_m_next : Nat) {av : List Value} {w0 : va_W} (n : Nat) (t_thrown : Int32) (t_size : Int32) (t_entries : Int32) (t_at : Int32) (t_limit : Int32) (t_bad : Int32) (t_keptRows : Int32) (t_place : Int32) (t_height : Int32) (t_reckoned : Int32) (t_value : Int32) (t_known : Int32) (t_pc : Int32) (t_unwound : Int32) (m_bytes : Nat → Int32) (x1 : Int32) (x2 : Int32) (x3 : Int32) (o : Int32 × Int32 × Int32) (h : f_Md_unsigned_24 n t_at t_limit t_bad m_bytes x1 x2 x3 = some o) : Gm l y_Md_unsigned b_Md_unsigned 4 (some .int) { frames := 0, cells := 0, slots := 0, locals := 0 } D vwCl (xTy K) av w0 (CtF D vwCl av w0 (some (.int o.1)) [(a_t, .inr (11, [.int t_thrown, .ref a_m_bytes, .int t_size, .int t_entries, .ref a_m_begins, .ref a_m_isCommon, .ref a_m_common, .ref a_m_code, .ref a_m_data, .ref a_m_back, .ref a_m_first, .ref a_m_range, .ref a_m_from, .ref a_m_to, .int o.2.1, .int t_limit, .int o.2.2, .ref a_m_row, .ref a_m_commonRow, .ref a_m_kept, .int t_keptRows, .int t_place, .ref a_m_stack, .int t_height, .int t_reckoned, .int t_value, .ref a_m_memory, .ref a_m_registers, .int t_known, .int t_pc, .int t_unwound, .ref a_m_next])), (a_m_bytes, .inl (K 1, 512, .inl m_bytes))]) 0 0 [(a_t, .inr (11, [.int t_thrown, .ref a_m_bytes, .int t_size, .int t_entries, .ref a_m_begins, .ref a_m_isCommon, .ref a_m_common, .ref a_m_code, .ref a_m_data, .ref a_m_back, .ref a_m_first, .ref a_m_range, .ref a_m_from, .ref a_m_to, .int t_at, .int t_limit, .int t_bad, .ref a_m_row, .ref a_m_commonRow, .ref a_m_kept, .int t_keptRows, .int t_place, .ref a_m_stack, .int t_height, .int t_reckoned, .int t_value, .ref a_m_memory, .ref a_m_registers, .int t_known, .int t_pc, .int t_unwound, .ref a_m_next])), (a_m_bytes, .inl (K 1, 512, .inl m_bytes))] [(0, .ref a_t), (1, .int x1), (2, .int x2), (3, .int x3)] 24 [] := by
  induction n generalizing t_thrown t_size t_entries t_at t_limit t_bad t_keptRows t_place t_height t_reckoned t_value t_known t_pc t_unwound m_bytes x1 x2 x3 with
  | zero => exact absurd h (by rw [f_Md_unsigned_24]; exact fun z => nomatch z)
  | succ n ih =>
    rw [f_Md_unsigned_24] at h
    refine g_iload_n d_Md_unsigned_24 rfl ?_
    refine g_iload_n d_Md_unsigned_25 rfl ?_
    refine g_icmp_ge (tgt := 54) d_Md_unsigned_26 (by decide) (fun hc => ?_) (fun hc => ?_)
    · replace h := it_t hc h
      refine g_aload_n d_Md_unsigned_54 rfl ?_
      refine g_dup d_Md_unsigned_55 rfl ?_
      refine gf_Md_79 0 rfl (v := .int t_at) rfl d_Md_unsigned_56 ?_
      refine g_iload_n d_Md_unsigned_59 rfl ?_
      refine g_iadd d_Md_unsigned_60 ?_
      refine pf_Md_79 0 rfl (v := .int (t_at + x1)) rfl rfl (Nat.le_of_ble_eq_true rfl) (ws' := [(a_t, .inr (11, [.int t_thrown, .ref a_m_bytes, .int t_size, .int t_entries, .ref a_m_begins, .ref a_m_isCommon, .ref a_m_common, .ref a_m_code, .ref a_m_data, .ref a_m_back, .ref a_m_first, .ref a_m_range, .ref a_m_from, .ref a_m_to, .int (t_at + x1), .int t_limit, .int t_bad, .ref a_m_row, .ref a_m_commonRow, .ref a_m_kept, .int t_keptRows, .int t_place, .ref a_m_stack, .int t_height, .int t_reckoned, .int t_value, .ref a_m_memory, .ref a_m_registers, .int t_known, .int t_pc, .int t_unwound, .ref a_m_next])), (a_m_bytes, .inl (K 1, 512, .inl m_bytes))]) rfl d_Md_unsigned_61 ?_
      refine g_iload_n d_Md_unsigned_64 rfl ?_
      obtain rfl := Option.some.inj h
      exact g_iret rfl d_Md_unsigned_65
    · replace h := it_f hc h
      refine g_iload_n d_Md_unsigned_29 rfl ?_
      refine g_aload_n d_Md_unsigned_30 rfl ?_
      refine gf_Md_7 0 rfl (v := .ref a_m_bytes) rfl d_Md_unsigned_31 ?_
      refine g_aload_n d_Md_unsigned_34 rfl ?_
      refine gf_Md_79 0 rfl (v := .int t_at) rfl d_Md_unsigned_35 ?_
      refine g_iload_n d_Md_unsigned_38 rfl ?_
      refine g_iadd d_Md_unsigned_39 ?_
      obtain ⟨hi40, h⟩ := it_in h
      refine g_iald 1 1 d_Md_unsigned_40 rfl rfl hi40 ?_
      refine g_bipush (v := 8) d_Md_unsigned_41 (by decide) ?_
      refine g_iload_n d_Md_unsigned_43 rfl ?_
      refine g_imul d_Md_unsigned_44 ?_
      refine g_ishl d_Md_unsigned_45 ?_
      refine g_ior d_Md_unsigned_46 ?_
      refine g_istore_n (L' := [(2, .int (x2 ||| ((m_bytes (t_at + x3).toNatClampNeg) <<< ((8 * x3) &&& 31)))), (0, .ref a_t), (1, .int x1), (3, .int x3)]) d_Md_unsigned_47 (by decide) rfl ?_
      refine g_iinc (k := 3) (v := x3 + 1) (L' := [(3, .int (x3 + 1)), (2, .int (x2 ||| ((m_bytes (t_at + x3).toNatClampNeg) <<< ((8 * x3) &&& 31)))), (0, .ref a_t), (1, .int x1)]) d_Md_unsigned_48 rfl (by first | rfl | decide) (by decide) rfl ?_
      refine g_goto (tgt := 24) d_Md_unsigned_51 (by decide) ?_
      refine g_lsub (L' := [(0, .ref a_t), (1, .int x1), (2, .int (x2 ||| ((m_bytes (t_at + x3).toNatClampNeg) <<< ((8 * x3) &&& 31)))), (3, .int (x3 + 1))]) [2, 3, 1, 0] rfl ?_
      exact ih t_thrown t_size t_entries t_at t_limit t_bad t_keptRows t_place t_height t_reckoned t_value t_known t_pc t_unwound m_bytes x1 (x2 ||| ((m_bytes (t_at + x3).toNatClampNeg) <<< ((8 * x3) &&& 31))) (x3 + 1) h
def f_Md_unsigned (t_at : Int32) (t_limit : Int32) (t_bad : Int32) (m_bytes : Nat → Int32) (n1 : Int32) : Option (Int32 × Int32 × Int32) := if (t_at + n1) ≤ t_limit then (f_Md_unsigned_24 LF t_at t_limit t_bad m_bytes n1 0 0) else (some (0, t_at, 1))
set_option maxRecDepth 100000 in
set_option maxHeartbeats 4000000 in
theorem c_Md_unsigned (l : Launch) (D : va_G) (K : Nat → ClassId) (a_t a_m_bytes a_m_begins a_m_isCommon a_m_common a_m_code a_m_data a_m_back a_m_first a_m_range a_m_from a_m_to a_m_row a_m_commonRow a_m_kept a_m_stack a_m_memory a_m_registers a_m_next : Nat) (t_thrown : Int32) (t_size : Int32) (t_entries : Int32) (t_at : Int32) (t_limit : Int32) (t_bad : Int32) (t_keptRows : Int32) (t_place : Int32) (t_height : Int32) (t_reckoned : Int32) (t_value : Int32) (t_known : Int32) (t_pc : Int32) (t_unwound : Int32) (m_bytes : Nat → Int32) (n1 : Int32) (o : Int32 × Int32 × Int32) (h : f_Md_unsigned t_at t_limit t_bad m_bytes n1 = some o) : Ct l y_Md_unsigned b_Md_unsigned 4 (some .int) { frames := 0, cells := 0, slots := 0, locals := 0 } D vwCl (xTy K) [.ref a_t, .int n1] [(a_t, .inr (11, [.int t_thrown, .ref a_m_bytes, .int t_size, .int t_entries, .ref a_m_begins, .ref a_m_isCommon, .ref a_m_common, .ref a_m_code, .ref a_m_data, .ref a_m_back, .ref a_m_first, .ref a_m_range, .ref a_m_from, .ref a_m_to, .int t_at, .int t_limit, .int t_bad, .ref a_m_row, .ref a_m_commonRow, .ref a_m_kept, .int t_keptRows, .int t_place, .ref a_m_stack, .int t_height, .int t_reckoned, .int t_value, .ref a_m_memory, .ref a_m_registers, .int t_known, .int t_pc, .int t_unwound, .ref a_m_next])), (a_m_bytes, .inl (K 1, 512, .inl m_bytes))] (some (.int o.1)) [(a_t, .inr (11, [.int t_thrown, .ref a_m_bytes, .int t_size, .int t_entries, .ref a_m_begins, .ref a_m_isCommon, .ref a_m_common, .ref a_m_code, .ref a_m_data, .ref a_m_back, .ref a_m_first, .ref a_m_range, .ref a_m_from, .ref a_m_to, .int o.2.1, .int t_limit, .int o.2.2, .ref a_m_row, .ref a_m_commonRow, .ref a_m_kept, .int t_keptRows, .int t_place, .ref a_m_stack, .int t_height, .int t_reckoned, .int t_value, .ref a_m_memory, .ref a_m_registers, .int t_known, .int t_pc, .int t_unwound, .ref a_m_next])), (a_m_bytes, .inl (K 1, 512, .inl m_bytes))] := by
  refine Ct.ofG (by decide) (Nat.le_of_ble_eq_true rfl) ?_
  refine g_L (L' := [(0, .ref a_t), (1, .int n1)]) rfl ?_
  unfold f_Md_unsigned at h
  refine g_aload_n d_Md_unsigned_0 rfl ?_
  refine gf_Md_79 0 rfl (v := .int t_at) rfl d_Md_unsigned_1 ?_
  refine g_iload_n d_Md_unsigned_4 rfl ?_
  refine g_iadd d_Md_unsigned_5 ?_
  refine g_aload_n d_Md_unsigned_6 rfl ?_
  refine gf_Md_82 0 rfl (v := .int t_limit) rfl d_Md_unsigned_7 ?_
  refine g_icmp_le (tgt := 20) d_Md_unsigned_10 (by decide) (fun hc => ?_) (fun hc => ?_)
  · replace h := it_t hc h
    refine g_iconst (v := 0) d_Md_unsigned_20 (by decide) ?_
    refine g_istore_n (L' := [(2, .int 0), (0, .ref a_t), (1, .int n1)]) d_Md_unsigned_21 (by decide) rfl ?_
    refine g_iconst (v := 0) d_Md_unsigned_22 (by decide) ?_
    refine g_istore_n (L' := [(3, .int 0), (2, .int 0), (0, .ref a_t), (1, .int n1)]) d_Md_unsigned_23 (by decide) rfl ?_
    refine g_lsub (L' := [(0, .ref a_t), (1, .int n1), (2, .int 0), (3, .int 0)]) [2, 3, 1, 0] rfl ?_
    exact j_Md_unsigned_24 l D K a_t a_m_bytes a_m_begins a_m_isCommon a_m_common a_m_code a_m_data a_m_back a_m_first a_m_range a_m_from a_m_to a_m_row a_m_commonRow a_m_kept a_m_stack a_m_memory a_m_registers a_m_next LF t_thrown t_size t_entries t_at t_limit t_bad t_keptRows t_place t_height t_reckoned t_value t_known t_pc t_unwound m_bytes n1 0 0 o h
  · replace h := it_f hc h
    refine g_aload_n d_Md_unsigned_13 rfl ?_
    refine g_iconst (v := 1) d_Md_unsigned_14 (by decide) ?_
    refine pf_Md_85 0 rfl (v := .int 1) (by decide) (by decide) (Nat.le_of_ble_eq_true rfl) (ws' := [(a_t, .inr (11, [.int t_thrown, .ref a_m_bytes, .int t_size, .int t_entries, .ref a_m_begins, .ref a_m_isCommon, .ref a_m_common, .ref a_m_code, .ref a_m_data, .ref a_m_back, .ref a_m_first, .ref a_m_range, .ref a_m_from, .ref a_m_to, .int t_at, .int t_limit, .int 1, .ref a_m_row, .ref a_m_commonRow, .ref a_m_kept, .int t_keptRows, .int t_place, .ref a_m_stack, .int t_height, .int t_reckoned, .int t_value, .ref a_m_memory, .ref a_m_registers, .int t_known, .int t_pc, .int t_unwound, .ref a_m_next])), (a_m_bytes, .inl (K 1, 512, .inl m_bytes))]) rfl d_Md_unsigned_15 ?_
    refine g_iconst (v := 0) d_Md_unsigned_18 (by decide) ?_
    obtain rfl := Option.some.inj h
    exact g_iret rfl d_Md_unsigned_19
def f_Md_signed (t_at : Int32) (t_limit : Int32) (t_bad : Int32) (m_bytes : Nat → Int32) (n1 : Int32) : Option (Int32 × Int32 × Int32) := ((f_Md_unsigned t_at t_limit t_bad m_bytes n1).bind fun q2 => if n1 = 1 then (some (q2.1.toInt8.toInt32, q2.2.1, q2.2.2)) else (if n1 = 2 then (some (q2.1.toInt16.toInt32, q2.2.1, q2.2.2)) else (some (q2.1, q2.2.1, q2.2.2))))
set_option maxRecDepth 100000 in
set_option maxHeartbeats 4000000 in
theorem c_Md_signed (l : Launch) (D : va_G) (K : Nat → ClassId) (a_t a_m_bytes a_m_begins a_m_isCommon a_m_common a_m_code a_m_data a_m_back a_m_first a_m_range a_m_from a_m_to a_m_row a_m_commonRow a_m_kept a_m_stack a_m_memory a_m_registers a_m_next : Nat) (t_thrown : Int32) (t_size : Int32) (t_entries : Int32) (t_at : Int32) (t_limit : Int32) (t_bad : Int32) (t_keptRows : Int32) (t_place : Int32) (t_height : Int32) (t_reckoned : Int32) (t_value : Int32) (t_known : Int32) (t_pc : Int32) (t_unwound : Int32) (m_bytes : Nat → Int32) (n1 : Int32) (o : Int32 × Int32 × Int32) (h : f_Md_signed t_at t_limit t_bad m_bytes n1 = some o) : Ct l y_Md_signed b_Md_signed 3 (some .int) { frames := 1, cells := 0, slots := 0, locals := 23 } D vwCl (xTy K) [.ref a_t, .int n1] [(a_t, .inr (11, [.int t_thrown, .ref a_m_bytes, .int t_size, .int t_entries, .ref a_m_begins, .ref a_m_isCommon, .ref a_m_common, .ref a_m_code, .ref a_m_data, .ref a_m_back, .ref a_m_first, .ref a_m_range, .ref a_m_from, .ref a_m_to, .int t_at, .int t_limit, .int t_bad, .ref a_m_row, .ref a_m_commonRow, .ref a_m_kept, .int t_keptRows, .int t_place, .ref a_m_stack, .int t_height, .int t_reckoned, .int t_value, .ref a_m_memory, .ref a_m_registers, .int t_known, .int t_pc, .int t_unwound, .ref a_m_next])), (a_m_bytes, .inl (K 1, 512, .inl m_bytes))] (some (.int o.1)) [(a_t, .inr (11, [.int t_thrown, .ref a_m_bytes, .int t_size, .int t_entries, .ref a_m_begins, .ref a_m_isCommon, .ref a_m_common, .ref a_m_code, .ref a_m_data, .ref a_m_back, .ref a_m_first, .ref a_m_range, .ref a_m_from, .ref a_m_to, .int o.2.1, .int t_limit, .int o.2.2, .ref a_m_row, .ref a_m_commonRow, .ref a_m_kept, .int t_keptRows, .int t_place, .ref a_m_stack, .int t_height, .int t_reckoned, .int t_value, .ref a_m_memory, .ref a_m_registers, .int t_known, .int t_pc, .int t_unwound, .ref a_m_next])), (a_m_bytes, .inl (K 1, 512, .inl m_bytes))] := by
  refine Ct.ofG (by decide) (Nat.le_of_ble_eq_true rfl) ?_
  refine g_L (L' := [(0, .ref a_t), (1, .int n1)]) rfl ?_
  unfold f_Md_signed at h
  refine g_aload_n d_Md_signed_0 rfl ?_
  refine g_iload_n d_Md_signed_1 rfl ?_
  obtain ⟨q2, hq2, h⟩ := it_b h
  refine g_callV (ci := 11) (q := (xR_Md, xF_Md, 32)) (As := [.int n1]) (rest := []) (st2 := [.int q2.1]) (ws2 := [(a_t, .inr (11, [.int t_thrown, .ref a_m_bytes, .int t_size, .int t_entries, .ref a_m_begins, .ref a_m_isCommon, .ref a_m_common, .ref a_m_code, .ref a_m_data, .ref a_m_back, .ref a_m_first, .ref a_m_range, .ref a_m_from, .ref a_m_to, .int q2.2.1, .int t_limit, .int q2.2.2, .ref a_m_row, .ref a_m_commonRow, .ref a_m_kept, .int t_keptRows, .int t_place, .ref a_m_stack, .int t_height, .int t_reckoned, .int t_value, .ref a_m_memory, .ref a_m_registers, .int t_known, .int t_pc, .int t_unwound, .ref a_m_next])), (a_m_bytes, .inl (K 1, 512, .inl m_bytes))]) (c_Md_unsigned l D K a_t a_m_bytes a_m_begins a_m_isCommon a_m_common a_m_code a_m_data a_m_back a_m_first a_m_range a_m_from a_m_to a_m_row a_m_commonRow a_m_kept a_m_stack a_m_memory a_m_registers a_m_next t_thrown t_size t_entries t_at t_limit t_bad t_keptRows t_place t_height t_reckoned t_value t_known t_pc t_unwound m_bytes n1 q2 hq2) (cs_Md_89 rfl rfl ⟨Nat.le_of_ble_eq_true rfl, Nat.le_of_ble_eq_true rfl⟩) rfl 0 rfl (gOver.mk2 [0, 1] [some 0, some 1] (by decide) (by decide) rfl rfl rfl) (Nat.le_of_ble_eq_true rfl) ⟨Nat.le_of_ble_eq_true rfl, Nat.le_of_ble_eq_true rfl⟩ d_Md_signed_2 rfl rfl ?_
  refine g_istore_n (L' := [(2, .int q2.1), (0, .ref a_t), (1, .int n1)]) d_Md_signed_5 (by decide) rfl ?_
  refine g_iload_n d_Md_signed_6 rfl ?_
  refine g_iconst (v := 1) d_Md_signed_7 (by decide) ?_
  refine g_icmp_ne (tgt := 16) d_Md_signed_8 (by decide) (fun hc => ?_) (fun hc => ?_)
  · replace h := it_f hc h
    refine g_iload_n d_Md_signed_16 rfl ?_
    refine g_iconst (v := 2) d_Md_signed_17 (by decide) ?_
    refine g_icmp_ne (tgt := 26) d_Md_signed_18 (by decide) (fun hc => ?_) (fun hc => ?_)
    · replace h := it_f hc h
      refine g_iload_n d_Md_signed_26 rfl ?_
      obtain rfl := Option.some.inj h
      exact g_iret rfl d_Md_signed_27
    · replace h := it_t hc h
      refine g_iload_n d_Md_signed_21 rfl ?_
      refine g_i2s d_Md_signed_22 ?_
      refine g_goto (tgt := 27) d_Md_signed_23 (by decide) ?_
      obtain rfl := Option.some.inj h
      exact g_iret rfl d_Md_signed_27
  · replace h := it_t hc h
    refine g_iload_n d_Md_signed_11 rfl ?_
    refine g_i2b d_Md_signed_12 ?_
    refine g_goto (tgt := 27) d_Md_signed_13 (by decide) ?_
    obtain rfl := Option.some.inj h
    exact g_iret rfl d_Md_signed_27
def f_Md_leb_7 : Nat → Int32 → Int32 → Int32 → (Nat → Int32) → Int32 → Int32 → Int32 → Int32 → Option (Int32 × Int32 × Int32)
  | 0, _, _, _, _, _, _, _, _ => none
  | n + 1, t_at, t_limit, t_bad, m_bytes, x1, x2, x3, x4 => if x4 = 0 then (some (x2, t_at, t_bad)) else (if t_at = t_limit then (some (0, t_at, 1)) else (if x3 = 35 then (some (0, t_at, 1)) else (if t_at < 0 ∨ 512 ≤ t_at.toNatClampNeg then none else if (m_bytes t_at.toNatClampNeg) ≤ 127 then (if x1 = 0 then (f_Md_leb_7 n (t_at + 1) t_limit t_bad m_bytes x1 (x2 ||| (((m_bytes t_at.toNatClampNeg) &&& 127) <<< (x3 &&& 31))) (x3 + 7) 0) else (if (m_bytes t_at.toNatClampNeg) ≤ 63 then (f_Md_leb_7 n (t_at + 1) t_limit t_bad m_bytes x1 (x2 ||| (((m_bytes t_at.toNatClampNeg) &&& 127) <<< (x3 &&& 31))) (x3 + 7) 0) else (if 32 ≤ (x3 + 7) then (f_Md_leb_7 n (t_at + 1) t_limit t_bad m_bytes x1 (x2 ||| (((m_bytes t_at.toNatClampNeg) &&& 127) <<< (x3 &&& 31))) (x3 + 7) 0) else (f_Md_leb_7 n (t_at + 1) t_limit t_bad m_bytes x1 ((x2 ||| (((m_bytes t_at.toNatClampNeg) &&& 127) <<< (x3 &&& 31))) ||| ((-1) <<< ((x3 + 7) &&& 31))) (x3 + 7) 0)))) else (f_Md_leb_7 n (t_at + 1) t_limit t_bad m_bytes x1 (x2 ||| (((m_bytes t_at.toNatClampNeg) &&& 127) <<< (x3 &&& 31))) (x3 + 7) 1))))
set_option maxRecDepth 100000 in
set_option maxHeartbeats 4000000 in
theorem j_Md_leb_7 (l : Launch) (D : va_G) (K : Nat → ClassId) (a_t a_m_bytes a_m_begins a_m_isCommon a_m_common a_m_code a_m_data a_m_back a_m_first a_m_range a_m_from a_m_to a_m_row a_m_commonRow a_m_kept a_m_stack a_m_memory a_m_registers a_m_next : Nat) {av : List Value} {w0 : va_W} (n : Nat) (t_thrown : Int32) (t_size : Int32) (t_entries : Int32) (t_at : Int32) (t_limit : Int32) (t_bad : Int32) (t_keptRows : Int32) (t_place : Int32) (t_height : Int32) (t_reckoned : Int32) (t_value : Int32) (t_known : Int32) (t_pc : Int32) (t_unwound : Int32) (m_bytes : Nat → Int32) (x1 : Int32) (x2 : Int32) (x3 : Int32) (x4 : Int32) (o : Int32 × Int32 × Int32) (h : f_Md_leb_7 n t_at t_limit t_bad m_bytes x1 x2 x3 x4 = some o) : Gm l y_Md_leb b_Md_leb 6 (some .int) { frames := 0, cells := 0, slots := 0, locals := 0 } D vwCl (xTy K) av w0 (CtF D vwCl av w0 (some (.int o.1)) [(a_t, .inr (11, [.int t_thrown, .ref a_m_bytes, .int t_size, .int t_entries, .ref a_m_begins, .ref a_m_isCommon, .ref a_m_common, .ref a_m_code, .ref a_m_data, .ref a_m_back, .ref a_m_first, .ref a_m_range, .ref a_m_from, .ref a_m_to, .int o.2.1, .int t_limit, .int o.2.2, .ref a_m_row, .ref a_m_commonRow, .ref a_m_kept, .int t_keptRows, .int t_place, .ref a_m_stack, .int t_height, .int t_reckoned, .int t_value, .ref a_m_memory, .ref a_m_registers, .int t_known, .int t_pc, .int t_unwound, .ref a_m_next])), (a_m_bytes, .inl (K 1, 512, .inl m_bytes))]) 0 0 [(a_t, .inr (11, [.int t_thrown, .ref a_m_bytes, .int t_size, .int t_entries, .ref a_m_begins, .ref a_m_isCommon, .ref a_m_common, .ref a_m_code, .ref a_m_data, .ref a_m_back, .ref a_m_first, .ref a_m_range, .ref a_m_from, .ref a_m_to, .int t_at, .int t_limit, .int t_bad, .ref a_m_row, .ref a_m_commonRow, .ref a_m_kept, .int t_keptRows, .int t_place, .ref a_m_stack, .int t_height, .int t_reckoned, .int t_value, .ref a_m_memory, .ref a_m_registers, .int t_known, .int t_pc, .int t_unwound, .ref a_m_next])), (a_m_bytes, .inl (K 1, 512, .inl m_bytes))] [(0, .ref a_t), (1, .int x1), (2, .int x2), (3, .int x3), (4, .int x4)] 7 [] := by
  induction n generalizing t_thrown t_size t_entries t_at t_limit t_bad t_keptRows t_place t_height t_reckoned t_value t_known t_pc t_unwound m_bytes x1 x2 x3 x4 with
  | zero => exact absurd h (by rw [f_Md_leb_7]; exact fun z => nomatch z)
  | succ n ih =>
    rw [f_Md_leb_7] at h
    refine g_iload d_Md_leb_7 rfl ?_
    refine g_if_eq (tgt := 115) d_Md_leb_9 (by decide) (fun hc => ?_) (fun hc => ?_)
    · replace h := it_t hc h
      refine g_iload_n d_Md_leb_115 rfl ?_
      obtain rfl := Option.some.inj h
      exact g_iret rfl d_Md_leb_116
    · replace h := it_f hc h
      refine g_aload_n d_Md_leb_12 rfl ?_
      refine gf_Md_79 0 rfl (v := .int t_at) rfl d_Md_leb_13 ?_
      refine g_aload_n d_Md_leb_16 rfl ?_
      refine gf_Md_82 0 rfl (v := .int t_limit) rfl d_Md_leb_17 ?_
      refine g_icmp_eq (tgt := 29) d_Md_leb_20 (by decide) (fun hc => ?_) (fun hc => ?_)
      · replace h := it_t hc h
        refine g_aload_n d_Md_leb_29 rfl ?_
        refine g_iconst (v := 1) d_Md_leb_30 (by decide) ?_
        refine pf_Md_85 0 rfl (v := .int 1) (by decide) (by decide) (Nat.le_of_ble_eq_true rfl) (ws' := [(a_t, .inr (11, [.int t_thrown, .ref a_m_bytes, .int t_size, .int t_entries, .ref a_m_begins, .ref a_m_isCommon, .ref a_m_common, .ref a_m_code, .ref a_m_data, .ref a_m_back, .ref a_m_first, .ref a_m_range, .ref a_m_from, .ref a_m_to, .int t_at, .int t_limit, .int 1, .ref a_m_row, .ref a_m_commonRow, .ref a_m_kept, .int t_keptRows, .int t_place, .ref a_m_stack, .int t_height, .int t_reckoned, .int t_value, .ref a_m_memory, .ref a_m_registers, .int t_known, .int t_pc, .int t_unwound, .ref a_m_next])), (a_m_bytes, .inl (K 1, 512, .inl m_bytes))]) rfl d_Md_leb_31 ?_
        refine g_iconst (v := 0) d_Md_leb_34 (by decide) ?_
        obtain rfl := Option.some.inj h
        exact g_iret rfl d_Md_leb_35
      · replace h := it_f hc h
        refine g_iload_n d_Md_leb_23 rfl ?_
        refine g_bipush (v := 35) d_Md_leb_24 (by decide) ?_
        refine g_icmp_ne (tgt := 36) d_Md_leb_26 (by decide) (fun hc => ?_) (fun hc => ?_)
        · replace h := it_f hc h
          refine g_aload_n d_Md_leb_36 rfl ?_
          refine gf_Md_7 0 rfl (v := .ref a_m_bytes) rfl d_Md_leb_37 ?_
          refine g_aload_n d_Md_leb_40 rfl ?_
          refine gf_Md_79 0 rfl (v := .int t_at) rfl d_Md_leb_41 ?_
          obtain ⟨hi44, h⟩ := it_in h
          refine g_iald 1 1 d_Md_leb_44 rfl rfl hi44 ?_
          refine g_istore (L' := [(5, .int (m_bytes t_at.toNatClampNeg)), (0, .ref a_t), (1, .int x1), (2, .int x2), (3, .int x3), (4, .int x4)]) d_Md_leb_45 (by decide) rfl ?_
          refine g_aload_n d_Md_leb_47 rfl ?_
          refine g_dup d_Md_leb_48 rfl ?_
          refine gf_Md_79 0 rfl (v := .int t_at) rfl d_Md_leb_49 ?_
          refine g_iconst (v := 1) d_Md_leb_52 (by decide) ?_
          refine g_iadd d_Md_leb_53 ?_
          refine pf_Md_79 0 rfl (v := .int (t_at + 1)) rfl rfl (Nat.le_of_ble_eq_true rfl) (ws' := [(a_t, .inr (11, [.int t_thrown, .ref a_m_bytes, .int t_size, .int t_entries, .ref a_m_begins, .ref a_m_isCommon, .ref a_m_common, .ref a_m_code, .ref a_m_data, .ref a_m_back, .ref a_m_first, .ref a_m_range, .ref a_m_from, .ref a_m_to, .int (t_at + 1), .int t_limit, .int t_bad, .ref a_m_row, .ref a_m_commonRow, .ref a_m_kept, .int t_keptRows, .int t_place, .ref a_m_stack, .int t_height, .int t_reckoned, .int t_value, .ref a_m_memory, .ref a_m_registers, .int t_known, .int t_pc, .int t_unwound, .ref a_m_next])), (a_m_bytes, .inl (K 1, 512, .inl m_bytes))]) rfl d_Md_leb_54 ?_
          refine g_iload_n d_Md_leb_57 rfl ?_
          refine g_iload d_Md_leb_58 rfl ?_
          refine g_bipush (v := 127) d_Md_leb_60 (by decide) ?_
          refine g_iand d_Md_leb_62 ?_
          refine g_iload_n d_Md_leb_63 rfl ?_
          refine g_ishl d_Md_leb_64 ?_
          refine g_ior d_Md_leb_65 ?_
          refine g_istore_n (L' := [(2, .int (x2 ||| (((m_bytes t_at.toNatClampNeg) &&& 127) <<< (x3 &&& 31)))), (5, .int (m_bytes t_at.toNatClampNeg)), (0, .ref a_t), (1, .int x1), (3, .int x3), (4, .int x4)]) d_Md_leb_66 (by decide) rfl ?_
          refine g_iinc (k := 4) (v := x3 + 7) (L' := [(3, .int (x3 + 7)), (2, .int (x2 ||| (((m_bytes t_at.toNatClampNeg) &&& 127) <<< (x3 &&& 31)))), (5, .int (m_bytes t_at.toNatClampNeg)), (0, .ref a_t), (1, .int x1), (4, .int x4)]) d_Md_leb_67 rfl (by first | rfl | decide) (by decide) rfl ?_
          refine g_iload d_Md_leb_70 rfl ?_
          refine g_bipush (v := 127) d_Md_leb_72 (by decide) ?_
          refine g_icmp_le (tgt := 81) d_Md_leb_74 (by decide) (fun hc => ?_) (fun hc => ?_)
          · replace h := it_t hc h
            refine g_iconst (v := 0) d_Md_leb_81 (by decide) ?_
            refine g_istore (L' := [(4, .int 0), (3, .int (x3 + 7)), (2, .int (x2 ||| (((m_bytes t_at.toNatClampNeg) &&& 127) <<< (x3 &&& 31)))), (5, .int (m_bytes t_at.toNatClampNeg)), (0, .ref a_t), (1, .int x1)]) d_Md_leb_82 (by decide) rfl ?_
            refine g_iload d_Md_leb_84 rfl ?_
            refine g_if_ne (tgt := 112) d_Md_leb_86 (by decide) (fun hc => ?_) (fun hc => ?_)
            · exact absurd hc (by decide)
            · skip
              refine g_iload_n d_Md_leb_89 rfl ?_
              refine g_if_eq (tgt := 112) d_Md_leb_90 (by decide) (fun hc => ?_) (fun hc => ?_)
              · replace h := it_t hc h
                refine g_goto (tgt := 7) d_Md_leb_112 (by decide) ?_
                refine g_lsub (L' := [(0, .ref a_t), (1, .int x1), (2, .int (x2 ||| (((m_bytes t_at.toNatClampNeg) &&& 127) <<< (x3 &&& 31)))), (3, .int (x3 + 7)), (4, .int 0)]) [4, 5, 2, 1, 0] rfl ?_
                exact ih t_thrown t_size t_entries (t_at + 1) t_limit t_bad t_keptRows t_place t_height t_reckoned t_value t_known t_pc t_unwound m_bytes x1 (x2 ||| (((m_bytes t_at.toNatClampNeg) &&& 127) <<< (x3 &&& 31))) (x3 + 7) 0 h
              · replace h := it_f hc h
                refine g_iload d_Md_leb_93 rfl ?_
                refine g_bipush (v := 63) d_Md_leb_95 (by decide) ?_
                refine g_icmp_le (tgt := 112) d_Md_leb_97 (by decide) (fun hc => ?_) (fun hc => ?_)
                · replace h := it_t hc h
                  refine g_goto (tgt := 7) d_Md_leb_112 (by decide) ?_
                  refine g_lsub (L' := [(0, .ref a_t), (1, .int x1), (2, .int (x2 ||| (((m_bytes t_at.toNatClampNeg) &&& 127) <<< (x3 &&& 31)))), (3, .int (x3 + 7)), (4, .int 0)]) [4, 5, 2, 1, 0] rfl ?_
                  exact ih t_thrown t_size t_entries (t_at + 1) t_limit t_bad t_keptRows t_place t_height t_reckoned t_value t_known t_pc t_unwound m_bytes x1 (x2 ||| (((m_bytes t_at.toNatClampNeg) &&& 127) <<< (x3 &&& 31))) (x3 + 7) 0 h
                · replace h := it_f hc h
                  refine g_iload_n d_Md_leb_100 rfl ?_
                  refine g_bipush (v := 32) d_Md_leb_101 (by decide) ?_
                  refine g_icmp_ge (tgt := 112) d_Md_leb_103 (by decide) (fun hc => ?_) (fun hc => ?_)
                  · replace h := it_t hc h
                    refine g_goto (tgt := 7) d_Md_leb_112 (by decide) ?_
                    refine g_lsub (L' := [(0, .ref a_t), (1, .int x1), (2, .int (x2 ||| (((m_bytes t_at.toNatClampNeg) &&& 127) <<< (x3 &&& 31)))), (3, .int (x3 + 7)), (4, .int 0)]) [4, 5, 2, 1, 0] rfl ?_
                    exact ih t_thrown t_size t_entries (t_at + 1) t_limit t_bad t_keptRows t_place t_height t_reckoned t_value t_known t_pc t_unwound m_bytes x1 (x2 ||| (((m_bytes t_at.toNatClampNeg) &&& 127) <<< (x3 &&& 31))) (x3 + 7) 0 h
                  · replace h := it_f hc h
                    refine g_iload_n d_Md_leb_106 rfl ?_
                    refine g_iconst (v := (-1)) d_Md_leb_107 (by decide) ?_
                    refine g_iload_n d_Md_leb_108 rfl ?_
                    refine g_ishl d_Md_leb_109 ?_
                    refine g_ior d_Md_leb_110 ?_
                    refine g_istore_n (L' := [(2, .int ((x2 ||| (((m_bytes t_at.toNatClampNeg) &&& 127) <<< (x3 &&& 31))) ||| ((-1) <<< ((x3 + 7) &&& 31)))), (4, .int 0), (3, .int (x3 + 7)), (5, .int (m_bytes t_at.toNatClampNeg)), (0, .ref a_t), (1, .int x1)]) d_Md_leb_111 (by decide) rfl ?_
                    refine g_goto (tgt := 7) d_Md_leb_112 (by decide) ?_
                    refine g_lsub (L' := [(0, .ref a_t), (1, .int x1), (2, .int ((x2 ||| (((m_bytes t_at.toNatClampNeg) &&& 127) <<< (x3 &&& 31))) ||| ((-1) <<< ((x3 + 7) &&& 31)))), (3, .int (x3 + 7)), (4, .int 0)]) [4, 5, 0, 2, 1] rfl ?_
                    exact ih t_thrown t_size t_entries (t_at + 1) t_limit t_bad t_keptRows t_place t_height t_reckoned t_value t_known t_pc t_unwound m_bytes x1 ((x2 ||| (((m_bytes t_at.toNatClampNeg) &&& 127) <<< (x3 &&& 31))) ||| ((-1) <<< ((x3 + 7) &&& 31))) (x3 + 7) 0 h
          · replace h := it_f hc h
            refine g_iconst (v := 1) d_Md_leb_77 (by decide) ?_
            refine g_goto (tgt := 82) d_Md_leb_78 (by decide) ?_
            refine g_istore (L' := [(4, .int 1), (3, .int (x3 + 7)), (2, .int (x2 ||| (((m_bytes t_at.toNatClampNeg) &&& 127) <<< (x3 &&& 31)))), (5, .int (m_bytes t_at.toNatClampNeg)), (0, .ref a_t), (1, .int x1)]) d_Md_leb_82 (by decide) rfl ?_
            refine g_iload d_Md_leb_84 rfl ?_
            refine g_if_ne (tgt := 112) d_Md_leb_86 (by decide) (fun hc => ?_) (fun hc => ?_)
            · skip
              refine g_goto (tgt := 7) d_Md_leb_112 (by decide) ?_
              refine g_lsub (L' := [(0, .ref a_t), (1, .int x1), (2, .int (x2 ||| (((m_bytes t_at.toNatClampNeg) &&& 127) <<< (x3 &&& 31)))), (3, .int (x3 + 7)), (4, .int 1)]) [4, 5, 2, 1, 0] rfl ?_
              exact ih t_thrown t_size t_entries (t_at + 1) t_limit t_bad t_keptRows t_place t_height t_reckoned t_value t_known t_pc t_unwound m_bytes x1 (x2 ||| (((m_bytes t_at.toNatClampNeg) &&& 127) <<< (x3 &&& 31))) (x3 + 7) 1 h
            · exact absurd hc (by decide)
        · replace h := it_t hc h
          refine g_aload_n d_Md_leb_29 rfl ?_
          refine g_iconst (v := 1) d_Md_leb_30 (by decide) ?_
          refine pf_Md_85 0 rfl (v := .int 1) (by decide) (by decide) (Nat.le_of_ble_eq_true rfl) (ws' := [(a_t, .inr (11, [.int t_thrown, .ref a_m_bytes, .int t_size, .int t_entries, .ref a_m_begins, .ref a_m_isCommon, .ref a_m_common, .ref a_m_code, .ref a_m_data, .ref a_m_back, .ref a_m_first, .ref a_m_range, .ref a_m_from, .ref a_m_to, .int t_at, .int t_limit, .int 1, .ref a_m_row, .ref a_m_commonRow, .ref a_m_kept, .int t_keptRows, .int t_place, .ref a_m_stack, .int t_height, .int t_reckoned, .int t_value, .ref a_m_memory, .ref a_m_registers, .int t_known, .int t_pc, .int t_unwound, .ref a_m_next])), (a_m_bytes, .inl (K 1, 512, .inl m_bytes))]) rfl d_Md_leb_31 ?_
          refine g_iconst (v := 0) d_Md_leb_34 (by decide) ?_
          obtain rfl := Option.some.inj h
          exact g_iret rfl d_Md_leb_35
def f_Md_leb (t_at : Int32) (t_limit : Int32) (t_bad : Int32) (m_bytes : Nat → Int32) (g1 : Int32) : Option (Int32 × Int32 × Int32) := f_Md_leb_7 LF t_at t_limit t_bad m_bytes g1 0 0 1
set_option maxRecDepth 100000 in
set_option maxHeartbeats 4000000 in
theorem c_Md_leb (l : Launch) (D : va_G) (K : Nat → ClassId) (a_t a_m_bytes a_m_begins a_m_isCommon a_m_common a_m_code a_m_data a_m_back a_m_first a_m_range a_m_from a_m_to a_m_row a_m_commonRow a_m_kept a_m_stack a_m_memory a_m_registers a_m_next : Nat) (t_thrown : Int32) (t_size : Int32) (t_entries : Int32) (t_at : Int32) (t_limit : Int32) (t_bad : Int32) (t_keptRows : Int32) (t_place : Int32) (t_height : Int32) (t_reckoned : Int32) (t_value : Int32) (t_known : Int32) (t_pc : Int32) (t_unwound : Int32) (m_bytes : Nat → Int32) (g1 : Int32) (o : Int32 × Int32 × Int32) (h : f_Md_leb t_at t_limit t_bad m_bytes g1 = some o) : Ct l y_Md_leb b_Md_leb 6 (some .int) { frames := 0, cells := 0, slots := 0, locals := 0 } D vwCl (xTy K) [.ref a_t, .int g1] [(a_t, .inr (11, [.int t_thrown, .ref a_m_bytes, .int t_size, .int t_entries, .ref a_m_begins, .ref a_m_isCommon, .ref a_m_common, .ref a_m_code, .ref a_m_data, .ref a_m_back, .ref a_m_first, .ref a_m_range, .ref a_m_from, .ref a_m_to, .int t_at, .int t_limit, .int t_bad, .ref a_m_row, .ref a_m_commonRow, .ref a_m_kept, .int t_keptRows, .int t_place, .ref a_m_stack, .int t_height, .int t_reckoned, .int t_value, .ref a_m_memory, .ref a_m_registers, .int t_known, .int t_pc, .int t_unwound, .ref a_m_next])), (a_m_bytes, .inl (K 1, 512, .inl m_bytes))] (some (.int o.1)) [(a_t, .inr (11, [.int t_thrown, .ref a_m_bytes, .int t_size, .int t_entries, .ref a_m_begins, .ref a_m_isCommon, .ref a_m_common, .ref a_m_code, .ref a_m_data, .ref a_m_back, .ref a_m_first, .ref a_m_range, .ref a_m_from, .ref a_m_to, .int o.2.1, .int t_limit, .int o.2.2, .ref a_m_row, .ref a_m_commonRow, .ref a_m_kept, .int t_keptRows, .int t_place, .ref a_m_stack, .int t_height, .int t_reckoned, .int t_value, .ref a_m_memory, .ref a_m_registers, .int t_known, .int t_pc, .int t_unwound, .ref a_m_next])), (a_m_bytes, .inl (K 1, 512, .inl m_bytes))] := by
  refine Ct.ofG (by decide) (Nat.le_of_ble_eq_true rfl) ?_
  refine g_L (L' := [(0, .ref a_t), (1, .int g1)]) rfl ?_
  unfold f_Md_leb at h
  refine g_iconst (v := 0) d_Md_leb_0 (by decide) ?_
  refine g_istore_n (L' := [(2, .int 0), (0, .ref a_t), (1, .int g1)]) d_Md_leb_1 (by decide) rfl ?_
  refine g_iconst (v := 0) d_Md_leb_2 (by decide) ?_
  refine g_istore_n (L' := [(3, .int 0), (2, .int 0), (0, .ref a_t), (1, .int g1)]) d_Md_leb_3 (by decide) rfl ?_
  refine g_iconst (v := 1) d_Md_leb_4 (by decide) ?_
  refine g_istore (L' := [(4, .int 1), (3, .int 0), (2, .int 0), (0, .ref a_t), (1, .int g1)]) d_Md_leb_5 (by decide) rfl ?_
  refine g_lsub (L' := [(0, .ref a_t), (1, .int g1), (2, .int 0), (3, .int 0), (4, .int 1)]) [3, 4, 2, 1, 0] rfl ?_
  exact j_Md_leb_7 l D K a_t a_m_bytes a_m_begins a_m_isCommon a_m_common a_m_code a_m_data a_m_back a_m_first a_m_range a_m_from a_m_to a_m_row a_m_commonRow a_m_kept a_m_stack a_m_memory a_m_registers a_m_next LF t_thrown t_size t_entries t_at t_limit t_bad t_keptRows t_place t_height t_reckoned t_value t_known t_pc t_unwound m_bytes g1 0 0 1 o h
def f_Md_rule (t_bad : Int32) (m_row : Nat → Int32) (r1 : Int32) (k1 : Int32) (n1 : Int32) (l1 : Int32) : Option (Int32 × (Nat → Int32)) := ((f_Md_within r1 0 7).bind fun q4 => if q4 = 0 then (some (1, m_row)) else (if r1 < 0 ∨ 27 ≤ r1.toNatClampNeg then none else if (8 + r1) < 0 ∨ 27 ≤ (8 + r1).toNatClampNeg then none else if (16 + r1) < 0 ∨ 27 ≤ (16 + r1).toNatClampNeg then none else some (t_bad, upd (upd (upd m_row r1.toNatClampNeg k1) (8 + r1).toNatClampNeg n1) (16 + r1).toNatClampNeg l1)))
set_option maxRecDepth 100000 in
set_option maxHeartbeats 4000000 in
theorem c_Md_rule (l : Launch) (D : va_G) (K : Nat → ClassId) (a_t a_m_bytes a_m_begins a_m_isCommon a_m_common a_m_code a_m_data a_m_back a_m_first a_m_range a_m_from a_m_to a_m_row a_m_commonRow a_m_kept a_m_stack a_m_memory a_m_registers a_m_next : Nat) (t_thrown : Int32) (t_size : Int32) (t_entries : Int32) (t_at : Int32) (t_limit : Int32) (t_bad : Int32) (t_keptRows : Int32) (t_place : Int32) (t_height : Int32) (t_reckoned : Int32) (t_value : Int32) (t_known : Int32) (t_pc : Int32) (t_unwound : Int32) (m_row : Nat → Int32) (r1 : Int32) (k1 : Int32) (n1 : Int32) (l1 : Int32) (o : Int32 × (Nat → Int32)) (h : f_Md_rule t_bad m_row r1 k1 n1 l1 = some o) : Ct l y_Md_rule b_Md_rule 5 none { frames := 1, cells := 0, slots := 0, locals := 22 } D vwCl (xTy K) [.ref a_t, .int r1, .int k1, .int n1, .int l1] [(a_t, .inr (11, [.int t_thrown, .ref a_m_bytes, .int t_size, .int t_entries, .ref a_m_begins, .ref a_m_isCommon, .ref a_m_common, .ref a_m_code, .ref a_m_data, .ref a_m_back, .ref a_m_first, .ref a_m_range, .ref a_m_from, .ref a_m_to, .int t_at, .int t_limit, .int t_bad, .ref a_m_row, .ref a_m_commonRow, .ref a_m_kept, .int t_keptRows, .int t_place, .ref a_m_stack, .int t_height, .int t_reckoned, .int t_value, .ref a_m_memory, .ref a_m_registers, .int t_known, .int t_pc, .int t_unwound, .ref a_m_next])), (a_m_row, .inl (K 1, 27, .inl m_row))] none [(a_t, .inr (11, [.int t_thrown, .ref a_m_bytes, .int t_size, .int t_entries, .ref a_m_begins, .ref a_m_isCommon, .ref a_m_common, .ref a_m_code, .ref a_m_data, .ref a_m_back, .ref a_m_first, .ref a_m_range, .ref a_m_from, .ref a_m_to, .int t_at, .int t_limit, .int o.1, .ref a_m_row, .ref a_m_commonRow, .ref a_m_kept, .int t_keptRows, .int t_place, .ref a_m_stack, .int t_height, .int t_reckoned, .int t_value, .ref a_m_memory, .ref a_m_registers, .int t_known, .int t_pc, .int t_unwound, .ref a_m_next])), (a_m_row, .inl (K 1, 27, .inl o.2))] := by
  refine Ct.ofG (by decide) (Nat.le_of_ble_eq_true rfl) ?_
  refine g_L (L' := [(0, .ref a_t), (1, .int r1), (2, .int k1), (3, .int n1), (4, .int l1)]) rfl ?_
  unfold f_Md_rule at h
  refine g_iload_n d_Md_rule_0 rfl ?_
  refine g_iconst (v := 0) d_Md_rule_1 (by decide) ?_
  refine g_bipush (v := 7) d_Md_rule_2 (by decide) ?_
  obtain ⟨q4, hq4, h⟩ := it_b h
  refine g_callS (As := [.int r1, .int 0, .int 7]) (rest := []) (st2 := [.int q4]) (ws2 := [(a_t, .inr (11, [.int t_thrown, .ref a_m_bytes, .int t_size, .int t_entries, .ref a_m_begins, .ref a_m_isCommon, .ref a_m_common, .ref a_m_code, .ref a_m_data, .ref a_m_back, .ref a_m_first, .ref a_m_range, .ref a_m_from, .ref a_m_to, .int t_at, .int t_limit, .int t_bad, .ref a_m_row, .ref a_m_commonRow, .ref a_m_kept, .int t_keptRows, .int t_place, .ref a_m_stack, .int t_height, .int t_reckoned, .int t_value, .ref a_m_memory, .ref a_m_registers, .int t_known, .int t_pc, .int t_unwound, .ref a_m_next])), (a_m_row, .inl (K 1, 27, .inl m_row))]) (c_Md_within l D K r1 0 7 q4 hq4) (cs_Md_75 rfl rfl ⟨Nat.le_of_ble_eq_true rfl, Nat.le_of_ble_eq_true rfl⟩) (gOver.rd [] (by decide) rfl) (Nat.le_of_ble_eq_true rfl) ⟨Nat.le_of_ble_eq_true rfl, Nat.le_of_ble_eq_true rfl⟩ d_Md_rule_4 rfl rfl ?_
  refine g_if_ne (tgt := 16) d_Md_rule_7 (by decide) (fun hc => ?_) (fun hc => ?_)
  · replace h := it_f hc h
    refine g_aload_n d_Md_rule_16 rfl ?_
    refine gf_Md_44 0 rfl (v := .ref a_m_row) rfl d_Md_rule_17 ?_
    refine g_iload_n d_Md_rule_20 rfl ?_
    refine g_iload_n d_Md_rule_21 rfl ?_
    obtain ⟨hi22, h⟩ := it_in h
    refine g_iast 1 1 (ws' := [(a_t, .inr (11, [.int t_thrown, .ref a_m_bytes, .int t_size, .int t_entries, .ref a_m_begins, .ref a_m_isCommon, .ref a_m_common, .ref a_m_code, .ref a_m_data, .ref a_m_back, .ref a_m_first, .ref a_m_range, .ref a_m_from, .ref a_m_to, .int t_at, .int t_limit, .int t_bad, .ref a_m_row, .ref a_m_commonRow, .ref a_m_kept, .int t_keptRows, .int t_place, .ref a_m_stack, .int t_height, .int t_reckoned, .int t_value, .ref a_m_memory, .ref a_m_registers, .int t_known, .int t_pc, .int t_unwound, .ref a_m_next])), (a_m_row, .inl (K 1, 27, .inl (upd m_row r1.toNatClampNeg k1)))]) d_Md_rule_22 rfl rfl hi22 rfl ?_
    refine g_aload_n d_Md_rule_23 rfl ?_
    refine gf_Md_44 0 rfl (v := .ref a_m_row) rfl d_Md_rule_24 ?_
    refine g_bipush (v := 8) d_Md_rule_27 (by decide) ?_
    refine g_iload_n d_Md_rule_29 rfl ?_
    refine g_iadd d_Md_rule_30 ?_
    refine g_iload_n d_Md_rule_31 rfl ?_
    obtain ⟨hi32, h⟩ := it_in h
    refine g_iast 1 1 (ws' := [(a_t, .inr (11, [.int t_thrown, .ref a_m_bytes, .int t_size, .int t_entries, .ref a_m_begins, .ref a_m_isCommon, .ref a_m_common, .ref a_m_code, .ref a_m_data, .ref a_m_back, .ref a_m_first, .ref a_m_range, .ref a_m_from, .ref a_m_to, .int t_at, .int t_limit, .int t_bad, .ref a_m_row, .ref a_m_commonRow, .ref a_m_kept, .int t_keptRows, .int t_place, .ref a_m_stack, .int t_height, .int t_reckoned, .int t_value, .ref a_m_memory, .ref a_m_registers, .int t_known, .int t_pc, .int t_unwound, .ref a_m_next])), (a_m_row, .inl (K 1, 27, .inl (upd (upd m_row r1.toNatClampNeg k1) (8 + r1).toNatClampNeg n1)))]) d_Md_rule_32 rfl rfl hi32 rfl ?_
    refine g_aload_n d_Md_rule_33 rfl ?_
    refine gf_Md_44 0 rfl (v := .ref a_m_row) rfl d_Md_rule_34 ?_
    refine g_bipush (v := 16) d_Md_rule_37 (by decide) ?_
    refine g_iload_n d_Md_rule_39 rfl ?_
    refine g_iadd d_Md_rule_40 ?_
    refine g_iload d_Md_rule_41 rfl ?_
    obtain ⟨hi43, h⟩ := it_in h
    refine g_iast 1 1 (ws' := [(a_t, .inr (11, [.int t_thrown, .ref a_m_bytes, .int t_size, .int t_entries, .ref a_m_begins, .ref a_m_isCommon, .ref a_m_common, .ref a_m_code, .ref a_m_data, .ref a_m_back, .ref a_m_first, .ref a_m_range, .ref a_m_from, .ref a_m_to, .int t_at, .int t_limit, .int t_bad, .ref a_m_row, .ref a_m_commonRow, .ref a_m_kept, .int t_keptRows, .int t_place, .ref a_m_stack, .int t_height, .int t_reckoned, .int t_value, .ref a_m_memory, .ref a_m_registers, .int t_known, .int t_pc, .int t_unwound, .ref a_m_next])), (a_m_row, .inl (K 1, 27, .inl (upd (upd (upd m_row r1.toNatClampNeg k1) (8 + r1).toNatClampNeg n1) (16 + r1).toNatClampNeg l1)))]) d_Md_rule_43 rfl rfl hi43 rfl ?_
    obtain rfl := Option.some.inj h
    exact g_vret rfl d_Md_rule_44
  · replace h := it_t hc h
    refine g_aload_n d_Md_rule_10 rfl ?_
    refine g_iconst (v := 1) d_Md_rule_11 (by decide) ?_
    refine pf_Md_85 0 rfl (v := .int 1) (by decide) (by decide) (Nat.le_of_ble_eq_true rfl) (ws' := [(a_t, .inr (11, [.int t_thrown, .ref a_m_bytes, .int t_size, .int t_entries, .ref a_m_begins, .ref a_m_isCommon, .ref a_m_common, .ref a_m_code, .ref a_m_data, .ref a_m_back, .ref a_m_first, .ref a_m_range, .ref a_m_from, .ref a_m_to, .int t_at, .int t_limit, .int 1, .ref a_m_row, .ref a_m_commonRow, .ref a_m_kept, .int t_keptRows, .int t_place, .ref a_m_stack, .int t_height, .int t_reckoned, .int t_value, .ref a_m_memory, .ref a_m_registers, .int t_known, .int t_pc, .int t_unwound, .ref a_m_next])), (a_m_row, .inl (K 1, 27, .inl m_row))]) rfl d_Md_rule_12 ?_
    obtain rfl := Option.some.inj h
    exact g_vret rfl d_Md_rule_15
def f_Md_cfa (m_row : Nat → Int32) (k1 : Int32) (n1 : Int32) (e1 : Int32) : Option ((Nat → Int32)) := if (24 : Int32) < 0 ∨ 27 ≤ (24 : Int32).toNatClampNeg then none else if (25 : Int32) < 0 ∨ 27 ≤ (25 : Int32).toNatClampNeg then none else if (26 : Int32) < 0 ∨ 27 ≤ (26 : Int32).toNatClampNeg then none else some (upd (upd (upd m_row (24 : Int32).toNatClampNeg k1) (25 : Int32).toNatClampNeg n1) (26 : Int32).toNatClampNeg e1)
set_option maxRecDepth 100000 in
set_option maxHeartbeats 4000000 in
theorem c_Md_cfa (l : Launch) (D : va_G) (K : Nat → ClassId) (a_t a_m_bytes a_m_begins a_m_isCommon a_m_common a_m_code a_m_data a_m_back a_m_first a_m_range a_m_from a_m_to a_m_row a_m_commonRow a_m_kept a_m_stack a_m_memory a_m_registers a_m_next : Nat) (t_thrown : Int32) (t_size : Int32) (t_entries : Int32) (t_at : Int32) (t_limit : Int32) (t_bad : Int32) (t_keptRows : Int32) (t_place : Int32) (t_height : Int32) (t_reckoned : Int32) (t_value : Int32) (t_known : Int32) (t_pc : Int32) (t_unwound : Int32) (m_row : Nat → Int32) (k1 : Int32) (n1 : Int32) (e1 : Int32) (o : (Nat → Int32)) (h : f_Md_cfa m_row k1 n1 e1 = some o) : Ct l y_Md_cfa b_Md_cfa 4 none { frames := 0, cells := 0, slots := 0, locals := 0 } D vwCl (xTy K) [.ref a_t, .int k1, .int n1, .int e1] [(a_t, .inr (11, [.int t_thrown, .ref a_m_bytes, .int t_size, .int t_entries, .ref a_m_begins, .ref a_m_isCommon, .ref a_m_common, .ref a_m_code, .ref a_m_data, .ref a_m_back, .ref a_m_first, .ref a_m_range, .ref a_m_from, .ref a_m_to, .int t_at, .int t_limit, .int t_bad, .ref a_m_row, .ref a_m_commonRow, .ref a_m_kept, .int t_keptRows, .int t_place, .ref a_m_stack, .int t_height, .int t_reckoned, .int t_value, .ref a_m_memory, .ref a_m_registers, .int t_known, .int t_pc, .int t_unwound, .ref a_m_next])), (a_m_row, .inl (K 1, 27, .inl m_row))] none [(a_t, .inr (11, [.int t_thrown, .ref a_m_bytes, .int t_size, .int t_entries, .ref a_m_begins, .ref a_m_isCommon, .ref a_m_common, .ref a_m_code, .ref a_m_data, .ref a_m_back, .ref a_m_first, .ref a_m_range, .ref a_m_from, .ref a_m_to, .int t_at, .int t_limit, .int t_bad, .ref a_m_row, .ref a_m_commonRow, .ref a_m_kept, .int t_keptRows, .int t_place, .ref a_m_stack, .int t_height, .int t_reckoned, .int t_value, .ref a_m_memory, .ref a_m_registers, .int t_known, .int t_pc, .int t_unwound, .ref a_m_next])), (a_m_row, .inl (K 1, 27, .inl o))] := by
  refine Ct.ofG (by decide) (Nat.le_of_ble_eq_true rfl) ?_
  refine g_L (L' := [(0, .ref a_t), (1, .int k1), (2, .int n1), (3, .int e1)]) rfl ?_
  unfold f_Md_cfa at h
  refine g_aload_n d_Md_cfa_0 rfl ?_
  refine gf_Md_44 0 rfl (v := .ref a_m_row) rfl d_Md_cfa_1 ?_
  refine g_bipush (v := 24) d_Md_cfa_4 (by decide) ?_
  refine g_iload_n d_Md_cfa_6 rfl ?_
  obtain ⟨hi7, h⟩ := it_in h
  refine g_iast 1 1 (ws' := [(a_t, .inr (11, [.int t_thrown, .ref a_m_bytes, .int t_size, .int t_entries, .ref a_m_begins, .ref a_m_isCommon, .ref a_m_common, .ref a_m_code, .ref a_m_data, .ref a_m_back, .ref a_m_first, .ref a_m_range, .ref a_m_from, .ref a_m_to, .int t_at, .int t_limit, .int t_bad, .ref a_m_row, .ref a_m_commonRow, .ref a_m_kept, .int t_keptRows, .int t_place, .ref a_m_stack, .int t_height, .int t_reckoned, .int t_value, .ref a_m_memory, .ref a_m_registers, .int t_known, .int t_pc, .int t_unwound, .ref a_m_next])), (a_m_row, .inl (K 1, 27, .inl (upd m_row (24 : Int32).toNatClampNeg k1)))]) d_Md_cfa_7 rfl rfl hi7 rfl ?_
  refine g_aload_n d_Md_cfa_8 rfl ?_
  refine gf_Md_44 0 rfl (v := .ref a_m_row) rfl d_Md_cfa_9 ?_
  refine g_bipush (v := 25) d_Md_cfa_12 (by decide) ?_
  refine g_iload_n d_Md_cfa_14 rfl ?_
  obtain ⟨hi15, h⟩ := it_in h
  refine g_iast 1 1 (ws' := [(a_t, .inr (11, [.int t_thrown, .ref a_m_bytes, .int t_size, .int t_entries, .ref a_m_begins, .ref a_m_isCommon, .ref a_m_common, .ref a_m_code, .ref a_m_data, .ref a_m_back, .ref a_m_first, .ref a_m_range, .ref a_m_from, .ref a_m_to, .int t_at, .int t_limit, .int t_bad, .ref a_m_row, .ref a_m_commonRow, .ref a_m_kept, .int t_keptRows, .int t_place, .ref a_m_stack, .int t_height, .int t_reckoned, .int t_value, .ref a_m_memory, .ref a_m_registers, .int t_known, .int t_pc, .int t_unwound, .ref a_m_next])), (a_m_row, .inl (K 1, 27, .inl (upd (upd m_row (24 : Int32).toNatClampNeg k1) (25 : Int32).toNatClampNeg n1)))]) d_Md_cfa_15 rfl rfl hi15 rfl ?_
  refine g_aload_n d_Md_cfa_16 rfl ?_
  refine gf_Md_44 0 rfl (v := .ref a_m_row) rfl d_Md_cfa_17 ?_
  refine g_bipush (v := 26) d_Md_cfa_20 (by decide) ?_
  refine g_iload_n d_Md_cfa_22 rfl ?_
  obtain ⟨hi23, h⟩ := it_in h
  refine g_iast 1 1 (ws' := [(a_t, .inr (11, [.int t_thrown, .ref a_m_bytes, .int t_size, .int t_entries, .ref a_m_begins, .ref a_m_isCommon, .ref a_m_common, .ref a_m_code, .ref a_m_data, .ref a_m_back, .ref a_m_first, .ref a_m_range, .ref a_m_from, .ref a_m_to, .int t_at, .int t_limit, .int t_bad, .ref a_m_row, .ref a_m_commonRow, .ref a_m_kept, .int t_keptRows, .int t_place, .ref a_m_stack, .int t_height, .int t_reckoned, .int t_value, .ref a_m_memory, .ref a_m_registers, .int t_known, .int t_pc, .int t_unwound, .ref a_m_next])), (a_m_row, .inl (K 1, 27, .inl (upd (upd (upd m_row (24 : Int32).toNatClampNeg k1) (25 : Int32).toNatClampNeg n1) (26 : Int32).toNatClampNeg e1)))]) d_Md_cfa_23 rfl rfl hi23 rfl ?_
  obtain rfl := Option.some.inj h
  exact g_vret rfl d_Md_cfa_24
def f_Md_restore (t_bad : Int32) (m_row : Nat → Int32) (m_commonRow : Nat → Int32) (r1 : Int32) : Option (Int32 × (Nat → Int32)) := ((f_Md_within r1 0 7).bind fun q4 => if q4 = 0 then (some (1, m_row)) else (if r1 < 0 ∨ 27 ≤ r1.toNatClampNeg then none else if (8 + r1) < 0 ∨ 27 ≤ (8 + r1).toNatClampNeg then none else if (16 + r1) < 0 ∨ 27 ≤ (16 + r1).toNatClampNeg then none else ((f_Md_rule t_bad m_row r1 (m_commonRow r1.toNatClampNeg) (m_commonRow (8 + r1).toNatClampNeg) (m_commonRow (16 + r1).toNatClampNeg)).bind fun q44 => some (q44.1, q44.2))))
set_option maxRecDepth 100000 in
set_option maxHeartbeats 4000000 in
theorem c_Md_restore (l : Launch) (D : va_G) (K : Nat → ClassId) (a_t a_m_bytes a_m_begins a_m_isCommon a_m_common a_m_code a_m_data a_m_back a_m_first a_m_range a_m_from a_m_to a_m_row a_m_commonRow a_m_kept a_m_stack a_m_memory a_m_registers a_m_next : Nat) (t_thrown : Int32) (t_size : Int32) (t_entries : Int32) (t_at : Int32) (t_limit : Int32) (t_bad : Int32) (t_keptRows : Int32) (t_place : Int32) (t_height : Int32) (t_reckoned : Int32) (t_value : Int32) (t_known : Int32) (t_pc : Int32) (t_unwound : Int32) (m_row : Nat → Int32) (m_commonRow : Nat → Int32) (r1 : Int32) (o : Int32 × (Nat → Int32)) (h : f_Md_restore t_bad m_row m_commonRow r1 = some o) : Ct l y_Md_restore b_Md_restore 2 none { frames := 2, cells := 0, slots := 0, locals := 46 } D vwCl (xTy K) [.ref a_t, .int r1] [(a_t, .inr (11, [.int t_thrown, .ref a_m_bytes, .int t_size, .int t_entries, .ref a_m_begins, .ref a_m_isCommon, .ref a_m_common, .ref a_m_code, .ref a_m_data, .ref a_m_back, .ref a_m_first, .ref a_m_range, .ref a_m_from, .ref a_m_to, .int t_at, .int t_limit, .int t_bad, .ref a_m_row, .ref a_m_commonRow, .ref a_m_kept, .int t_keptRows, .int t_place, .ref a_m_stack, .int t_height, .int t_reckoned, .int t_value, .ref a_m_memory, .ref a_m_registers, .int t_known, .int t_pc, .int t_unwound, .ref a_m_next])), (a_m_row, .inl (K 1, 27, .inl m_row)), (a_m_commonRow, .inl (K 1, 27, .inl m_commonRow))] none [(a_t, .inr (11, [.int t_thrown, .ref a_m_bytes, .int t_size, .int t_entries, .ref a_m_begins, .ref a_m_isCommon, .ref a_m_common, .ref a_m_code, .ref a_m_data, .ref a_m_back, .ref a_m_first, .ref a_m_range, .ref a_m_from, .ref a_m_to, .int t_at, .int t_limit, .int o.1, .ref a_m_row, .ref a_m_commonRow, .ref a_m_kept, .int t_keptRows, .int t_place, .ref a_m_stack, .int t_height, .int t_reckoned, .int t_value, .ref a_m_memory, .ref a_m_registers, .int t_known, .int t_pc, .int t_unwound, .ref a_m_next])), (a_m_row, .inl (K 1, 27, .inl o.2)), (a_m_commonRow, .inl (K 1, 27, .inl m_commonRow))] := by
  refine Ct.ofG (by decide) (Nat.le_of_ble_eq_true rfl) ?_
  refine g_L (L' := [(0, .ref a_t), (1, .int r1)]) rfl ?_
  unfold f_Md_restore at h
  refine g_iload_n d_Md_restore_0 rfl ?_
  refine g_iconst (v := 0) d_Md_restore_1 (by decide) ?_
  refine g_bipush (v := 7) d_Md_restore_2 (by decide) ?_
  obtain ⟨q4, hq4, h⟩ := it_b h
  refine g_callS (As := [.int r1, .int 0, .int 7]) (rest := []) (st2 := [.int q4]) (ws2 := [(a_t, .inr (11, [.int t_thrown, .ref a_m_bytes, .int t_size, .int t_entries, .ref a_m_begins, .ref a_m_isCommon, .ref a_m_common, .ref a_m_code, .ref a_m_data, .ref a_m_back, .ref a_m_first, .ref a_m_range, .ref a_m_from, .ref a_m_to, .int t_at, .int t_limit, .int t_bad, .ref a_m_row, .ref a_m_commonRow, .ref a_m_kept, .int t_keptRows, .int t_place, .ref a_m_stack, .int t_height, .int t_reckoned, .int t_value, .ref a_m_memory, .ref a_m_registers, .int t_known, .int t_pc, .int t_unwound, .ref a_m_next])), (a_m_row, .inl (K 1, 27, .inl m_row)), (a_m_commonRow, .inl (K 1, 27, .inl m_commonRow))]) (c_Md_within l D K r1 0 7 q4 hq4) (cs_Md_75 rfl rfl ⟨Nat.le_of_ble_eq_true rfl, Nat.le_of_ble_eq_true rfl⟩) (gOver.rd [] (by decide) rfl) (Nat.le_of_ble_eq_true rfl) ⟨Nat.le_of_ble_eq_true rfl, Nat.le_of_ble_eq_true rfl⟩ d_Md_restore_4 rfl rfl ?_
  refine g_if_ne (tgt := 18) d_Md_restore_7 (by decide) (fun hc => ?_) (fun hc => ?_)
  · replace h := it_f hc h
    refine g_aload_n d_Md_restore_18 rfl ?_
    refine g_iload_n d_Md_restore_19 rfl ?_
    refine g_aload_n d_Md_restore_20 rfl ?_
    refine gf_Md_47 0 rfl (v := .ref a_m_commonRow) rfl d_Md_restore_21 ?_
    refine g_iload_n d_Md_restore_24 rfl ?_
    obtain ⟨hi25, h⟩ := it_in h
    refine g_iald 2 1 d_Md_restore_25 rfl rfl hi25 ?_
    refine g_aload_n d_Md_restore_26 rfl ?_
    refine gf_Md_47 0 rfl (v := .ref a_m_commonRow) rfl d_Md_restore_27 ?_
    refine g_bipush (v := 8) d_Md_restore_30 (by decide) ?_
    refine g_iload_n d_Md_restore_32 rfl ?_
    refine g_iadd d_Md_restore_33 ?_
    obtain ⟨hi34, h⟩ := it_in h
    refine g_iald 2 1 d_Md_restore_34 rfl rfl hi34 ?_
    refine g_aload_n d_Md_restore_35 rfl ?_
    refine gf_Md_47 0 rfl (v := .ref a_m_commonRow) rfl d_Md_restore_36 ?_
    refine g_bipush (v := 16) d_Md_restore_39 (by decide) ?_
    refine g_iload_n d_Md_restore_41 rfl ?_
    refine g_iadd d_Md_restore_42 ?_
    obtain ⟨hi43, h⟩ := it_in h
    refine g_iald 2 1 d_Md_restore_43 rfl rfl hi43 ?_
    obtain ⟨q44, hq44, h⟩ := it_b h
    refine g_callV (ci := 11) (q := (xR_Md, xF_Md, 32)) (As := [.int r1, .int (m_commonRow r1.toNatClampNeg), .int (m_commonRow (8 + r1).toNatClampNeg), .int (m_commonRow (16 + r1).toNatClampNeg)]) (rest := []) (st2 := []) (ws2 := [(a_t, .inr (11, [.int t_thrown, .ref a_m_bytes, .int t_size, .int t_entries, .ref a_m_begins, .ref a_m_isCommon, .ref a_m_common, .ref a_m_code, .ref a_m_data, .ref a_m_back, .ref a_m_first, .ref a_m_range, .ref a_m_from, .ref a_m_to, .int t_at, .int t_limit, .int q44.1, .ref a_m_row, .ref a_m_commonRow, .ref a_m_kept, .int t_keptRows, .int t_place, .ref a_m_stack, .int t_height, .int t_reckoned, .int t_value, .ref a_m_memory, .ref a_m_registers, .int t_known, .int t_pc, .int t_unwound, .ref a_m_next])), (a_m_row, .inl (K 1, 27, .inl q44.2)), (a_m_commonRow, .inl (K 1, 27, .inl m_commonRow))]) (c_Md_rule l D K a_t a_m_bytes a_m_begins a_m_isCommon a_m_common a_m_code a_m_data a_m_back a_m_first a_m_range a_m_from a_m_to a_m_row a_m_commonRow a_m_kept a_m_stack a_m_memory a_m_registers a_m_next t_thrown t_size t_entries t_at t_limit t_bad t_keptRows t_place t_height t_reckoned t_value t_known t_pc t_unwound m_row r1 (m_commonRow r1.toNatClampNeg) (m_commonRow (8 + r1).toNatClampNeg) (m_commonRow (16 + r1).toNatClampNeg) q44 hq44) (cs_Md_93 rfl rfl ⟨Nat.le_of_ble_eq_true rfl, Nat.le_of_ble_eq_true rfl⟩) rfl 0 rfl (gOver.mk2 [0, 1] [some 0, some 1, none] (by decide) (by decide) rfl rfl rfl) (Nat.le_of_ble_eq_true rfl) ⟨Nat.le_of_ble_eq_true rfl, Nat.le_of_ble_eq_true rfl⟩ d_Md_restore_44 rfl rfl ?_
    obtain rfl := Option.some.inj h
    exact g_vret rfl d_Md_restore_47
  · replace h := it_t hc h
    refine g_aload_n d_Md_restore_10 rfl ?_
    refine g_iconst (v := 1) d_Md_restore_11 (by decide) ?_
    refine pf_Md_85 0 rfl (v := .int 1) (by decide) (by decide) (Nat.le_of_ble_eq_true rfl) (ws' := [(a_t, .inr (11, [.int t_thrown, .ref a_m_bytes, .int t_size, .int t_entries, .ref a_m_begins, .ref a_m_isCommon, .ref a_m_common, .ref a_m_code, .ref a_m_data, .ref a_m_back, .ref a_m_first, .ref a_m_range, .ref a_m_from, .ref a_m_to, .int t_at, .int t_limit, .int 1, .ref a_m_row, .ref a_m_commonRow, .ref a_m_kept, .int t_keptRows, .int t_place, .ref a_m_stack, .int t_height, .int t_reckoned, .int t_value, .ref a_m_memory, .ref a_m_registers, .int t_known, .int t_pc, .int t_unwound, .ref a_m_next])), (a_m_row, .inl (K 1, 27, .inl m_row)), (a_m_commonRow, .inl (K 1, 27, .inl m_commonRow))]) rfl d_Md_restore_12 ?_
    refine g_goto (tgt := 47) d_Md_restore_15 (by decide) ?_
    obtain rfl := Option.some.inj h
    exact g_vret rfl d_Md_restore_47
def f_Md_register_ (t_at : Int32) (t_limit : Int32) (t_bad : Int32) (m_bytes : Nat → Int32) : Option (Int32 × Int32 × Int32) := ((f_Md_leb t_at t_limit t_bad m_bytes 0).bind fun q2 => if q2.2.2 = 0 then (((f_Md_within q2.1 0 7).bind fun q18 => if q18 = 0 then (some (q2.1, q2.2.1, 1)) else (some (q2.1, q2.2.1, 0)))) else (some (q2.1, q2.2.1, 1)))
set_option maxRecDepth 100000 in
set_option maxHeartbeats 4000000 in
theorem c_Md_register_ (l : Launch) (D : va_G) (K : Nat → ClassId) (a_t a_m_bytes a_m_begins a_m_isCommon a_m_common a_m_code a_m_data a_m_back a_m_first a_m_range a_m_from a_m_to a_m_row a_m_commonRow a_m_kept a_m_stack a_m_memory a_m_registers a_m_next : Nat) (t_thrown : Int32) (t_size : Int32) (t_entries : Int32) (t_at : Int32) (t_limit : Int32) (t_bad : Int32) (t_keptRows : Int32) (t_place : Int32) (t_height : Int32) (t_reckoned : Int32) (t_value : Int32) (t_known : Int32) (t_pc : Int32) (t_unwound : Int32) (m_bytes : Nat → Int32) (o : Int32 × Int32 × Int32) (h : f_Md_register_ t_at t_limit t_bad m_bytes = some o) : Ct l y_Md_register_ b_Md_register_ 2 (some .int) { frames := 1, cells := 0, slots := 0, locals := 25 } D vwCl (xTy K) [.ref a_t] [(a_t, .inr (11, [.int t_thrown, .ref a_m_bytes, .int t_size, .int t_entries, .ref a_m_begins, .ref a_m_isCommon, .ref a_m_common, .ref a_m_code, .ref a_m_data, .ref a_m_back, .ref a_m_first, .ref a_m_range, .ref a_m_from, .ref a_m_to, .int t_at, .int t_limit, .int t_bad, .ref a_m_row, .ref a_m_commonRow, .ref a_m_kept, .int t_keptRows, .int t_place, .ref a_m_stack, .int t_height, .int t_reckoned, .int t_value, .ref a_m_memory, .ref a_m_registers, .int t_known, .int t_pc, .int t_unwound, .ref a_m_next])), (a_m_bytes, .inl (K 1, 512, .inl m_bytes))] (some (.int o.1)) [(a_t, .inr (11, [.int t_thrown, .ref a_m_bytes, .int t_size, .int t_entries, .ref a_m_begins, .ref a_m_isCommon, .ref a_m_common, .ref a_m_code, .ref a_m_data, .ref a_m_back, .ref a_m_first, .ref a_m_range, .ref a_m_from, .ref a_m_to, .int o.2.1, .int t_limit, .int o.2.2, .ref a_m_row, .ref a_m_commonRow, .ref a_m_kept, .int t_keptRows, .int t_place, .ref a_m_stack, .int t_height, .int t_reckoned, .int t_value, .ref a_m_memory, .ref a_m_registers, .int t_known, .int t_pc, .int t_unwound, .ref a_m_next])), (a_m_bytes, .inl (K 1, 512, .inl m_bytes))] := by
  refine Ct.ofG (by decide) (Nat.le_of_ble_eq_true rfl) ?_
  refine g_L (L' := [(0, .ref a_t)]) rfl ?_
  unfold f_Md_register_ at h
  refine g_aload_n d_Md_register__0 rfl ?_
  refine g_iconst (v := 0) d_Md_register__1 (by decide) ?_
  obtain ⟨q2, hq2, h⟩ := it_b h
  refine g_callV (ci := 11) (q := (xR_Md, xF_Md, 32)) (As := [.int 0]) (rest := []) (st2 := [.int q2.1]) (ws2 := [(a_t, .inr (11, [.int t_thrown, .ref a_m_bytes, .int t_size, .int t_entries, .ref a_m_begins, .ref a_m_isCommon, .ref a_m_common, .ref a_m_code, .ref a_m_data, .ref a_m_back, .ref a_m_first, .ref a_m_range, .ref a_m_from, .ref a_m_to, .int q2.2.1, .int t_limit, .int q2.2.2, .ref a_m_row, .ref a_m_commonRow, .ref a_m_kept, .int t_keptRows, .int t_place, .ref a_m_stack, .int t_height, .int t_reckoned, .int t_value, .ref a_m_memory, .ref a_m_registers, .int t_known, .int t_pc, .int t_unwound, .ref a_m_next])), (a_m_bytes, .inl (K 1, 512, .inl m_bytes))]) (c_Md_leb l D K a_t a_m_bytes a_m_begins a_m_isCommon a_m_common a_m_code a_m_data a_m_back a_m_first a_m_range a_m_from a_m_to a_m_row a_m_commonRow a_m_kept a_m_stack a_m_memory a_m_registers a_m_next t_thrown t_size t_entries t_at t_limit t_bad t_keptRows t_place t_height t_reckoned t_value t_known t_pc t_unwound m_bytes 0 q2 hq2) (cs_Md_97 rfl rfl ⟨Nat.le_of_ble_eq_true rfl, Nat.le_of_ble_eq_true rfl⟩) rfl 0 rfl (gOver.mk2 [0, 1] [some 0, some 1] (by decide) (by decide) rfl rfl rfl) (Nat.le_of_ble_eq_true rfl) ⟨Nat.le_of_ble_eq_true rfl, Nat.le_of_ble_eq_true rfl⟩ d_Md_register__2 rfl rfl ?_
  refine g_istore_n (L' := [(1, .int q2.1), (0, .ref a_t)]) d_Md_register__5 (by decide) rfl ?_
  refine g_aload_n d_Md_register__6 rfl ?_
  refine g_aload_n d_Md_register__7 rfl ?_
  refine gf_Md_85 0 rfl (v := .int q2.2.2) rfl d_Md_register__8 ?_
  refine g_if_ne (tgt := 24) d_Md_register__11 (by decide) (fun hc => ?_) (fun hc => ?_)
  · replace h := it_f hc h
    refine g_iconst (v := 1) d_Md_register__24 (by decide) ?_
    refine g_goto (tgt := 29) d_Md_register__25 (by decide) ?_
    refine pf_Md_85 0 rfl (v := .int 1) (by decide) (by decide) (Nat.le_of_ble_eq_true rfl) (ws' := [(a_t, .inr (11, [.int t_thrown, .ref a_m_bytes, .int t_size, .int t_entries, .ref a_m_begins, .ref a_m_isCommon, .ref a_m_common, .ref a_m_code, .ref a_m_data, .ref a_m_back, .ref a_m_first, .ref a_m_range, .ref a_m_from, .ref a_m_to, .int q2.2.1, .int t_limit, .int 1, .ref a_m_row, .ref a_m_commonRow, .ref a_m_kept, .int t_keptRows, .int t_place, .ref a_m_stack, .int t_height, .int t_reckoned, .int t_value, .ref a_m_memory, .ref a_m_registers, .int t_known, .int t_pc, .int t_unwound, .ref a_m_next])), (a_m_bytes, .inl (K 1, 512, .inl m_bytes))]) rfl d_Md_register__29 ?_
    refine g_iload_n d_Md_register__32 rfl ?_
    obtain rfl := Option.some.inj h
    exact g_iret rfl d_Md_register__33
  · replace h := it_t hc h
    refine g_iload_n d_Md_register__14 rfl ?_
    refine g_iconst (v := 0) d_Md_register__15 (by decide) ?_
    refine g_bipush (v := 7) d_Md_register__16 (by decide) ?_
    obtain ⟨q18, hq18, h⟩ := it_b h
    refine g_callS (As := [.int q2.1, .int 0, .int 7]) (rest := [.ref a_t]) (st2 := [.int q18, .ref a_t]) (ws2 := [(a_t, .inr (11, [.int t_thrown, .ref a_m_bytes, .int t_size, .int t_entries, .ref a_m_begins, .ref a_m_isCommon, .ref a_m_common, .ref a_m_code, .ref a_m_data, .ref a_m_back, .ref a_m_first, .ref a_m_range, .ref a_m_from, .ref a_m_to, .int q2.2.1, .int t_limit, .int q2.2.2, .ref a_m_row, .ref a_m_commonRow, .ref a_m_kept, .int t_keptRows, .int t_place, .ref a_m_stack, .int t_height, .int t_reckoned, .int t_value, .ref a_m_memory, .ref a_m_registers, .int t_known, .int t_pc, .int t_unwound, .ref a_m_next])), (a_m_bytes, .inl (K 1, 512, .inl m_bytes))]) (c_Md_within l D K q2.1 0 7 q18 hq18) (cs_Md_75 rfl rfl ⟨Nat.le_of_ble_eq_true rfl, Nat.le_of_ble_eq_true rfl⟩) (gOver.rd [] (by decide) rfl) (Nat.le_of_ble_eq_true rfl) ⟨Nat.le_of_ble_eq_true rfl, Nat.le_of_ble_eq_true rfl⟩ d_Md_register__18 rfl rfl ?_
    refine g_if_ne (tgt := 28) d_Md_register__21 (by decide) (fun hc => ?_) (fun hc => ?_)
    · replace h := it_f hc h
      refine g_iconst (v := 0) d_Md_register__28 (by decide) ?_
      refine pf_Md_85 0 rfl (v := .int 0) (by decide) (by decide) (Nat.le_of_ble_eq_true rfl) (ws' := [(a_t, .inr (11, [.int t_thrown, .ref a_m_bytes, .int t_size, .int t_entries, .ref a_m_begins, .ref a_m_isCommon, .ref a_m_common, .ref a_m_code, .ref a_m_data, .ref a_m_back, .ref a_m_first, .ref a_m_range, .ref a_m_from, .ref a_m_to, .int q2.2.1, .int t_limit, .int 0, .ref a_m_row, .ref a_m_commonRow, .ref a_m_kept, .int t_keptRows, .int t_place, .ref a_m_stack, .int t_height, .int t_reckoned, .int t_value, .ref a_m_memory, .ref a_m_registers, .int t_known, .int t_pc, .int t_unwound, .ref a_m_next])), (a_m_bytes, .inl (K 1, 512, .inl m_bytes))]) rfl d_Md_register__29 ?_
      refine g_iload_n d_Md_register__32 rfl ?_
      obtain rfl := Option.some.inj h
      exact g_iret rfl d_Md_register__33
    · replace h := it_t hc h
      refine g_iconst (v := 1) d_Md_register__24 (by decide) ?_
      refine g_goto (tgt := 29) d_Md_register__25 (by decide) ?_
      refine pf_Md_85 0 rfl (v := .int 1) (by decide) (by decide) (Nat.le_of_ble_eq_true rfl) (ws' := [(a_t, .inr (11, [.int t_thrown, .ref a_m_bytes, .int t_size, .int t_entries, .ref a_m_begins, .ref a_m_isCommon, .ref a_m_common, .ref a_m_code, .ref a_m_data, .ref a_m_back, .ref a_m_first, .ref a_m_range, .ref a_m_from, .ref a_m_to, .int q2.2.1, .int t_limit, .int 1, .ref a_m_row, .ref a_m_commonRow, .ref a_m_kept, .int t_keptRows, .int t_place, .ref a_m_stack, .int t_height, .int t_reckoned, .int t_value, .ref a_m_memory, .ref a_m_registers, .int t_known, .int t_pc, .int t_unwound, .ref a_m_next])), (a_m_bytes, .inl (K 1, 512, .inl m_bytes))]) rfl d_Md_register__29 ?_
      refine g_iload_n d_Md_register__32 rfl ?_
      obtain rfl := Option.some.inj h
      exact g_iret rfl d_Md_register__33
def f_Md_block (t_at : Int32) (t_limit : Int32) (t_bad : Int32) (n1 : Int32) : Option (Int32 × Int32 × Int32) := if n1 < 0 then (some (t_at, t_at, 1)) else (if n1 ≤ (t_limit - t_at) then (some (t_at, t_at + n1, t_bad)) else (some (t_at, t_at, 1)))
set_option maxRecDepth 100000 in
set_option maxHeartbeats 4000000 in
theorem c_Md_block (l : Launch) (D : va_G) (K : Nat → ClassId) (a_t a_m_bytes a_m_begins a_m_isCommon a_m_common a_m_code a_m_data a_m_back a_m_first a_m_range a_m_from a_m_to a_m_row a_m_commonRow a_m_kept a_m_stack a_m_memory a_m_registers a_m_next : Nat) (t_thrown : Int32) (t_size : Int32) (t_entries : Int32) (t_at : Int32) (t_limit : Int32) (t_bad : Int32) (t_keptRows : Int32) (t_place : Int32) (t_height : Int32) (t_reckoned : Int32) (t_value : Int32) (t_known : Int32) (t_pc : Int32) (t_unwound : Int32) (n1 : Int32) (o : Int32 × Int32 × Int32) (h : f_Md_block t_at t_limit t_bad n1 = some o) : Ct l y_Md_block b_Md_block 3 (some .int) { frames := 0, cells := 0, slots := 0, locals := 0 } D vwCl (xTy K) [.ref a_t, .int n1] [(a_t, .inr (11, [.int t_thrown, .ref a_m_bytes, .int t_size, .int t_entries, .ref a_m_begins, .ref a_m_isCommon, .ref a_m_common, .ref a_m_code, .ref a_m_data, .ref a_m_back, .ref a_m_first, .ref a_m_range, .ref a_m_from, .ref a_m_to, .int t_at, .int t_limit, .int t_bad, .ref a_m_row, .ref a_m_commonRow, .ref a_m_kept, .int t_keptRows, .int t_place, .ref a_m_stack, .int t_height, .int t_reckoned, .int t_value, .ref a_m_memory, .ref a_m_registers, .int t_known, .int t_pc, .int t_unwound, .ref a_m_next]))] (some (.int o.1)) [(a_t, .inr (11, [.int t_thrown, .ref a_m_bytes, .int t_size, .int t_entries, .ref a_m_begins, .ref a_m_isCommon, .ref a_m_common, .ref a_m_code, .ref a_m_data, .ref a_m_back, .ref a_m_first, .ref a_m_range, .ref a_m_from, .ref a_m_to, .int o.2.1, .int t_limit, .int o.2.2, .ref a_m_row, .ref a_m_commonRow, .ref a_m_kept, .int t_keptRows, .int t_place, .ref a_m_stack, .int t_height, .int t_reckoned, .int t_value, .ref a_m_memory, .ref a_m_registers, .int t_known, .int t_pc, .int t_unwound, .ref a_m_next]))] := by
  refine Ct.ofG (by decide) (Nat.le_of_ble_eq_true rfl) ?_
  refine g_L (L' := [(0, .ref a_t), (1, .int n1)]) rfl ?_
  unfold f_Md_block at h
  refine g_aload_n d_Md_block_0 rfl ?_
  refine gf_Md_79 0 rfl (v := .int t_at) rfl d_Md_block_1 ?_
  refine g_istore_n (L' := [(2, .int t_at), (0, .ref a_t), (1, .int n1)]) d_Md_block_4 (by decide) rfl ?_
  refine g_iload_n d_Md_block_5 rfl ?_
  refine g_if_lt (tgt := 22) d_Md_block_6 (by decide) (fun hc => ?_) (fun hc => ?_)
  · replace h := it_t hc h
    refine g_aload_n d_Md_block_22 rfl ?_
    refine g_iconst (v := 1) d_Md_block_23 (by decide) ?_
    refine pf_Md_85 0 rfl (v := .int 1) (by decide) (by decide) (Nat.le_of_ble_eq_true rfl) (ws' := [(a_t, .inr (11, [.int t_thrown, .ref a_m_bytes, .int t_size, .int t_entries, .ref a_m_begins, .ref a_m_isCommon, .ref a_m_common, .ref a_m_code, .ref a_m_data, .ref a_m_back, .ref a_m_first, .ref a_m_range, .ref a_m_from, .ref a_m_to, .int t_at, .int t_limit, .int 1, .ref a_m_row, .ref a_m_commonRow, .ref a_m_kept, .int t_keptRows, .int t_place, .ref a_m_stack, .int t_height, .int t_reckoned, .int t_value, .ref a_m_memory, .ref a_m_registers, .int t_known, .int t_pc, .int t_unwound, .ref a_m_next]))]) rfl d_Md_block_24 ?_
    refine g_goto (tgt := 40) d_Md_block_27 (by decide) ?_
    refine g_iload_n d_Md_block_40 rfl ?_
    obtain rfl := Option.some.inj h
    exact g_iret rfl d_Md_block_41
  · replace h := it_f hc h
    refine g_iload_n d_Md_block_9 rfl ?_
    refine g_aload_n d_Md_block_10 rfl ?_
    refine gf_Md_82 0 rfl (v := .int t_limit) rfl d_Md_block_11 ?_
    refine g_aload_n d_Md_block_14 rfl ?_
    refine gf_Md_79 0 rfl (v := .int t_at) rfl d_Md_block_15 ?_
    refine g_isub d_Md_block_18 ?_
    refine g_icmp_le (tgt := 30) d_Md_block_19 (by decide) (fun hc => ?_) (fun hc => ?_)
    · replace h := it_t hc h
      refine g_aload_n d_Md_block_30 rfl ?_
      refine g_dup d_Md_block_31 rfl ?_
      refine gf_Md_79 0 rfl (v := .int t_at) rfl d_Md_block_32 ?_
      refine g_iload_n d_Md_block_35 rfl ?_
      refine g_iadd d_Md_block_36 ?_
      refine pf_Md_79 0 rfl (v := .int (t_at + n1)) rfl rfl (Nat.le_of_ble_eq_true rfl) (ws' := [(a_t, .inr (11, [.int t_thrown, .ref a_m_bytes, .int t_size, .int t_entries, .ref a_m_begins, .ref a_m_isCommon, .ref a_m_common, .ref a_m_code, .ref a_m_data, .ref a_m_back, .ref a_m_first, .ref a_m_range, .ref a_m_from, .ref a_m_to, .int (t_at + n1), .int t_limit, .int t_bad, .ref a_m_row, .ref a_m_commonRow, .ref a_m_kept, .int t_keptRows, .int t_place, .ref a_m_stack, .int t_height, .int t_reckoned, .int t_value, .ref a_m_memory, .ref a_m_registers, .int t_known, .int t_pc, .int t_unwound, .ref a_m_next]))]) rfl d_Md_block_37 ?_
      refine g_iload_n d_Md_block_40 rfl ?_
      obtain rfl := Option.some.inj h
      exact g_iret rfl d_Md_block_41
    · replace h := it_f hc h
      refine g_aload_n d_Md_block_22 rfl ?_
      refine g_iconst (v := 1) d_Md_block_23 (by decide) ?_
      refine pf_Md_85 0 rfl (v := .int 1) (by decide) (by decide) (Nat.le_of_ble_eq_true rfl) (ws' := [(a_t, .inr (11, [.int t_thrown, .ref a_m_bytes, .int t_size, .int t_entries, .ref a_m_begins, .ref a_m_isCommon, .ref a_m_common, .ref a_m_code, .ref a_m_data, .ref a_m_back, .ref a_m_first, .ref a_m_range, .ref a_m_from, .ref a_m_to, .int t_at, .int t_limit, .int 1, .ref a_m_row, .ref a_m_commonRow, .ref a_m_kept, .int t_keptRows, .int t_place, .ref a_m_stack, .int t_height, .int t_reckoned, .int t_value, .ref a_m_memory, .ref a_m_registers, .int t_known, .int t_pc, .int t_unwound, .ref a_m_next]))]) rfl d_Md_block_24 ?_
      refine g_goto (tgt := 40) d_Md_block_27 (by decide) ?_
      refine g_iload_n d_Md_block_40 rfl ?_
      obtain rfl := Option.some.inj h
      exact g_iret rfl d_Md_block_41
