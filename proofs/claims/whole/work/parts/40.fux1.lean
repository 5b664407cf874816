def f_Fu_feed (se_size : Int32) (bb : Nat → Int32) (f1 : Int32) : Option ((Nat × Int32 × (Nat → Int32)) ⊕ (Int32 × Int32 × (Nat → Int32))) := if (se_size + 4) ≤ 512 then (((f_Se_append se_size bb f1).bind fun q28 => some (.inr (q28.1, q28.1, q28.2)))) else (some (.inl (5, (se_size, bb))))
set_option maxRecDepth 100000 in
set_option maxHeartbeats 4000000 in
theorem c_Fu_feed (l : Launch) (D : va_G) (K : Nat → ClassId) (a_t a_se a_bb a_la a_tr a_me a_fr a_ca a_rk : Nat) (t_lastValue : Int32) (se_size : Int32) (bb : Nat → Int32) (f1 : Int32) (o : Int32 × Int32 × (Nat → Int32)) (h : f_Fu_feed se_size bb f1 = some (.inr o)) : Ct l y_Fu_feed b_Fu_feed 2 (some .int) { frames := 1, cells := 0, slots := 0, locals := 22 } D vwCl (xTy K) [.ref a_t, .int f1] [(a_t, .inr (10, [.ref a_se, .ref a_la, .ref a_tr, .ref a_me, .ref a_fr, .ref a_ca, .ref a_rk, .int t_lastValue])), (a_se, .inr (8, [.ref a_bb, .int se_size])), (a_bb, .inl (K 0, 512, .inl bb))] (some (.int o.1)) [(a_t, .inr (10, [.ref a_se, .ref a_la, .ref a_tr, .ref a_me, .ref a_fr, .ref a_ca, .ref a_rk, .int t_lastValue])), (a_se, .inr (8, [.ref a_bb, .int o.2.1])), (a_bb, .inl (K 0, 512, .inl o.2.2))] := by
  refine Ct.ofG (by decide) (Nat.le_of_ble_eq_true rfl) ?_
  refine g_L (L' := [(0, .ref a_t), (1, .int f1)]) rfl ?_
  unfold f_Fu_feed at h
  refine g_aload_n d_Fu_feed_0 rfl ?_
  refine gf_Fu_10 0 rfl (v := .ref a_se) rfl d_Fu_feed_1 ?_
  refine gf_Fu_73 1 rfl (v := .int se_size) rfl d_Fu_feed_4 ?_
  refine g_iconst (v := 4) d_Fu_feed_7 (by decide) ?_
  refine g_iadd d_Fu_feed_8 ?_
  refine g_sipush (v := 512) d_Fu_feed_9 (by decide) ?_
  refine g_icmp_le (tgt := 23) d_Fu_feed_12 (by decide) (fun hc => ?_) (fun hc => ?_)
  · replace h := it_t hc h
    refine g_aload_n d_Fu_feed_23 rfl ?_
    refine gf_Fu_10 0 rfl (v := .ref a_se) rfl d_Fu_feed_24 ?_
    refine g_iload_n d_Fu_feed_27 rfl ?_
    obtain ⟨q28, hq28, h⟩ := it_b h
    refine g_callV (ci := 8) (q := (xR_Se, xF_Se, 2)) (As := [.int f1]) (rest := []) (st2 := []) (ws2 := [(a_t, .inr (10, [.ref a_se, .ref a_la, .ref a_tr, .ref a_me, .ref a_fr, .ref a_ca, .ref a_rk, .int t_lastValue])), (a_se, .inr (8, [.ref a_bb, .int q28.1])), (a_bb, .inl (K 0, 512, .inl q28.2))]) (c_Se_append l D K a_se a_bb se_size bb f1 q28 hq28) (cs_Fu_79 rfl rfl ⟨Nat.le_of_ble_eq_true rfl, Nat.le_of_ble_eq_true rfl⟩) rfl 1 rfl (gOver.mk2 [1, 2] [none, some 0, some 1] (by decide) (by decide) rfl rfl rfl) (Nat.le_of_ble_eq_true rfl) ⟨Nat.le_of_ble_eq_true rfl, Nat.le_of_ble_eq_true rfl⟩ d_Fu_feed_28 rfl rfl ?_
    refine g_aload_n d_Fu_feed_31 rfl ?_
    refine gf_Fu_10 0 rfl (v := .ref a_se) rfl d_Fu_feed_32 ?_
    refine gf_Fu_73 1 rfl (v := .int q28.1) rfl d_Fu_feed_35 ?_
    obtain rfl := gInr h
    exact g_iret rfl d_Fu_feed_38
  · replace h := it_f hc h
    exact absurd h (by simp)
set_option maxRecDepth 100000 in
set_option maxHeartbeats 4000000 in
theorem x5_Fu_feed (l : Launch) (hl : l.stackTraces = false) (D : va_G) (K : Nat → ClassId) (a_t a_se a_bb a_la a_tr a_me a_fr a_ca a_rk : Nat) (t_lastValue : Int32) (se_size : Int32) (bb : Nat → Int32) (f1 : Int32) (o : Int32 × (Nat → Int32)) (h : f_Fu_feed se_size bb f1 = some (.inl (5, o))) : CtT l y_Fu_feed b_Fu_feed 2 (some .int) { frames := 6, cells := 1, slots := 6, locals := 81 } D vwCl (xTy K) [.ref a_t, .int f1] [(a_t, .inr (10, [.ref a_se, .ref a_la, .ref a_tr, .ref a_me, .ref a_fr, .ref a_ca, .ref a_rk, .int t_lastValue])), (a_se, .inr (8, [.ref a_bb, .int se_size])), (a_bb, .inl (K 0, 512, .inl bb))] "java/lang/UnsupportedOperationException" [(a_t, .inr (10, [.ref a_se, .ref a_la, .ref a_tr, .ref a_me, .ref a_fr, .ref a_ca, .ref a_rk, .int t_lastValue])), (a_se, .inr (8, [.ref a_bb, .int o.1])), (a_bb, .inl (K 0, 512, .inl o.2))] := by
  refine CtT.ofG (by decide) (Nat.le_of_ble_eq_true rfl) ?_
  refine g_L (L' := [(0, .ref a_t), (1, .int f1)]) rfl ?_
  unfold f_Fu_feed at h
  refine g_aload_n d_Fu_feed_0 rfl ?_
  refine gf_Fu_10 0 rfl (v := .ref a_se) rfl d_Fu_feed_1 ?_
  refine gf_Fu_73 1 rfl (v := .int se_size) rfl d_Fu_feed_4 ?_
  refine g_iconst (v := 4) d_Fu_feed_7 (by decide) ?_
  refine g_iadd d_Fu_feed_8 ?_
  refine g_sipush (v := 512) d_Fu_feed_9 (by decide) ?_
  refine g_icmp_le (tgt := 23) d_Fu_feed_12 (by decide) (fun hc => ?_) (fun hc => ?_)
  · replace h := it_t hc h
    refine g_aload_n d_Fu_feed_23 rfl ?_
    refine gf_Fu_10 0 rfl (v := .ref a_se) rfl d_Fu_feed_24 ?_
    refine g_iload_n d_Fu_feed_27 rfl ?_
    obtain ⟨q28, hq28, h⟩ := it_b h
    refine g_callV (ci := 8) (q := (xR_Se, xF_Se, 2)) (As := [.int f1]) (rest := []) (st2 := []) (ws2 := [(a_t, .inr (10, [.ref a_se, .ref a_la, .ref a_tr, .ref a_me, .ref a_fr, .ref a_ca, .ref a_rk, .int t_lastValue])), (a_se, .inr (8, [.ref a_bb, .int q28.1])), (a_bb, .inl (K 0, 512, .inl q28.2))]) (c_Se_append l D K a_se a_bb se_size bb f1 q28 hq28) (cs_Fu_79 rfl rfl ⟨Nat.le_of_ble_eq_true rfl, Nat.le_of_ble_eq_true rfl⟩) rfl 1 rfl (gOver.mk2 [1, 2] [none, some 0, some 1] (by decide) (by decide) rfl rfl rfl) (Nat.le_of_ble_eq_true rfl) ⟨Nat.le_of_ble_eq_true rfl, Nat.le_of_ble_eq_true rfl⟩ d_Fu_feed_28 rfl rfl ?_
    refine g_aload_n d_Fu_feed_31 rfl ?_
    refine gf_Fu_10 0 rfl (v := .ref a_se) rfl d_Fu_feed_32 ?_
    refine gf_Fu_73 1 rfl (v := .int q28.1) rfl d_Fu_feed_35 ?_
    exact absurd h (by simp)
  · replace h := it_f hc h
    obtain rfl := gInl h
    exact g_throw hl tb_402 th_Fu_76 (by decide) (by decide) (by decide) (by decide) d_Fu_feed_15 d_Fu_feed_18 d_Fu_feed_19 d_Fu_feed_22
def f_Fu_end (se_size : Int32) (n1 : Int32) : Option ((Nat × Int32) ⊕ (Int32)) := if n1 < 0 then (some (.inl (3, se_size))) else (if n1 ≤ se_size then (some (.inr n1)) else (some (.inl (3, se_size))))
set_option maxRecDepth 100000 in
set_option maxHeartbeats 4000000 in
theorem c_Fu_end (l : Launch) (D : va_G) (K : Nat → ClassId) (a_t a_se a_bb a_la a_tr a_me a_fr a_ca a_rk : Nat) (t_lastValue : Int32) (se_size : Int32) (n1 : Int32) (o : Int32) (h : f_Fu_end se_size n1 = some (.inr o)) : Ct l y_Fu_end b_Fu_end 2 none { frames := 0, cells := 0, slots := 0, locals := 0 } D vwCl (xTy K) [.ref a_t, .int n1] [(a_t, .inr (10, [.ref a_se, .ref a_la, .ref a_tr, .ref a_me, .ref a_fr, .ref a_ca, .ref a_rk, .int t_lastValue])), (a_se, .inr (8, [.ref a_bb, .int se_size]))] none [(a_t, .inr (10, [.ref a_se, .ref a_la, .ref a_tr, .ref a_me, .ref a_fr, .ref a_ca, .ref a_rk, .int t_lastValue])), (a_se, .inr (8, [.ref a_bb, .int o]))] := by
  refine Ct.ofG (by decide) (Nat.le_of_ble_eq_true rfl) ?_
  refine g_L (L' := [(0, .ref a_t), (1, .int n1)]) rfl ?_
  unfold f_Fu_end at h
  refine g_iload_n d_Fu_end_0 rfl ?_
  refine g_if_lt (tgt := 15) d_Fu_end_1 (by decide) (fun hc => ?_) (fun hc => ?_)
  · replace h := it_t hc h
    exact absurd h (by simp)
  · replace h := it_f hc h
    refine g_iload_n d_Fu_end_4 rfl ?_
    refine g_aload_n d_Fu_end_5 rfl ?_
    refine gf_Fu_10 0 rfl (v := .ref a_se) rfl d_Fu_end_6 ?_
    refine gf_Fu_73 1 rfl (v := .int se_size) rfl d_Fu_end_9 ?_
    refine g_icmp_le (tgt := 23) d_Fu_end_12 (by decide) (fun hc => ?_) (fun hc => ?_)
    · replace h := it_t hc h
      refine g_aload_n d_Fu_end_23 rfl ?_
      refine gf_Fu_10 0 rfl (v := .ref a_se) rfl d_Fu_end_24 ?_
      refine g_iload_n d_Fu_end_27 rfl ?_
      refine pf_Fu_73 1 rfl (v := .int n1) rfl rfl (Nat.le_of_ble_eq_true rfl) (ws' := [(a_t, .inr (10, [.ref a_se, .ref a_la, .ref a_tr, .ref a_me, .ref a_fr, .ref a_ca, .ref a_rk, .int t_lastValue])), (a_se, .inr (8, [.ref a_bb, .int n1]))]) rfl d_Fu_end_28 ?_
      obtain rfl := gInr h
      exact g_vret rfl d_Fu_end_31
    · replace h := it_f hc h
      exact absurd h (by simp)
set_option maxRecDepth 100000 in
set_option maxHeartbeats 4000000 in
theorem x3_Fu_end (l : Launch) (hl : l.stackTraces = false) (D : va_G) (K : Nat → ClassId) (a_t a_se a_bb a_la a_tr a_me a_fr a_ca a_rk : Nat) (t_lastValue : Int32) (se_size : Int32) (n1 : Int32) (o : Int32) (h : f_Fu_end se_size n1 = some (.inl (3, o))) : CtT l y_Fu_end b_Fu_end 2 none { frames := 6, cells := 1, slots := 6, locals := 81 } D vwCl (xTy K) [.ref a_t, .int n1] [(a_t, .inr (10, [.ref a_se, .ref a_la, .ref a_tr, .ref a_me, .ref a_fr, .ref a_ca, .ref a_rk, .int t_lastValue])), (a_se, .inr (8, [.ref a_bb, .int se_size]))] "java/lang/IllegalArgumentException" [(a_t, .inr (10, [.ref a_se, .ref a_la, .ref a_tr, .ref a_me, .ref a_fr, .ref a_ca, .ref a_rk, .int t_lastValue])), (a_se, .inr (8, [.ref a_bb, .int o]))] := by
  refine CtT.ofG (by decide) (Nat.le_of_ble_eq_true rfl) ?_
  refine g_L (L' := [(0, .ref a_t), (1, .int n1)]) rfl ?_
  unfold f_Fu_end at h
  refine g_iload_n d_Fu_end_0 rfl ?_
  refine g_if_lt (tgt := 15) d_Fu_end_1 (by decide) (fun hc => ?_) (fun hc => ?_)
  · replace h := it_t hc h
    obtain rfl := gInl h
    exact g_throw hl tb_479 th_Fu_83 (by decide) (by decide) (by decide) (by decide) d_Fu_end_15 d_Fu_end_18 d_Fu_end_19 d_Fu_end_22
  · replace h := it_f hc h
    refine g_iload_n d_Fu_end_4 rfl ?_
    refine g_aload_n d_Fu_end_5 rfl ?_
    refine gf_Fu_10 0 rfl (v := .ref a_se) rfl d_Fu_end_6 ?_
    refine gf_Fu_73 1 rfl (v := .int se_size) rfl d_Fu_end_9 ?_
    refine g_icmp_le (tgt := 23) d_Fu_end_12 (by decide) (fun hc => ?_) (fun hc => ?_)
    · replace h := it_t hc h
      refine g_aload_n d_Fu_end_23 rfl ?_
      refine gf_Fu_10 0 rfl (v := .ref a_se) rfl d_Fu_end_24 ?_
      refine g_iload_n d_Fu_end_27 rfl ?_
      refine pf_Fu_73 1 rfl (v := .int n1) rfl rfl (Nat.le_of_ble_eq_true rfl) (ws' := [(a_t, .inr (10, [.ref a_se, .ref a_la, .ref a_tr, .ref a_me, .ref a_fr, .ref a_ca, .ref a_rk, .int t_lastValue])), (a_se, .inr (8, [.ref a_bb, .int n1]))]) rfl d_Fu_end_28 ?_
      exact absurd h (by simp)
    · replace h := it_f hc h
      obtain rfl := gInl h
      exact g_throw hl tb_479 th_Fu_83 (by decide) (by decide) (by decide) (by decide) d_Fu_end_15 d_Fu_end_18 d_Fu_end_19 d_Fu_end_22
def f_Fu_spoil (se_size : Int32) (bb : Nat → Int32) (k1 : Int32) (b1 : Int32) : Option ((Nat × (Nat → Int32)) ⊕ (Int32 × (Nat → Int32))) := if k1 < 0 then (some (.inl (4, bb))) else (if k1 < se_size then (((f_Se_replace bb k1 b1).bind fun q29 => some (.inr (q29.1, q29.2)))) else (some (.inl (4, bb))))
set_option maxRecDepth 100000 in
set_option maxHeartbeats 4000000 in
theorem c_Fu_spoil (l : Launch) (D : va_G) (K : Nat → ClassId) (a_t a_se a_bb a_la a_tr a_me a_fr a_ca a_rk : Nat) (t_lastValue : Int32) (se_size : Int32) (bb : Nat → Int32) (k1 : Int32) (b1 : Int32) (o : Int32 × (Nat → Int32)) (h : f_Fu_spoil se_size bb k1 b1 = some (.inr o)) : Ct l y_Fu_spoil b_Fu_spoil 3 (some .int) { frames := 1, cells := 0, slots := 0, locals := 23 } D vwCl (xTy K) [.ref a_t, .int k1, .int b1] [(a_t, .inr (10, [.ref a_se, .ref a_la, .ref a_tr, .ref a_me, .ref a_fr, .ref a_ca, .ref a_rk, .int t_lastValue])), (a_se, .inr (8, [.ref a_bb, .int se_size])), (a_bb, .inl (K 0, 512, .inl bb))] (some (.int o.1)) [(a_t, .inr (10, [.ref a_se, .ref a_la, .ref a_tr, .ref a_me, .ref a_fr, .ref a_ca, .ref a_rk, .int t_lastValue])), (a_se, .inr (8, [.ref a_bb, .int se_size])), (a_bb, .inl (K 0, 512, .inl o.2))] := by
  refine Ct.ofG (by decide) (Nat.le_of_ble_eq_true rfl) ?_
  refine g_L (L' := [(0, .ref a_t), (1, .int k1), (2, .int b1)]) rfl ?_
  unfold f_Fu_spoil at h
  refine g_iload_n d_Fu_spoil_0 rfl ?_
  refine g_if_lt (tgt := 15) d_Fu_spoil_1 (by decide) (fun hc => ?_) (fun hc => ?_)
  · replace h := it_t hc h
    exact absurd h (by simp)
  · replace h := it_f hc h
    refine g_iload_n d_Fu_spoil_4 rfl ?_
    refine g_aload_n d_Fu_spoil_5 rfl ?_
    refine gf_Fu_10 0 rfl (v := .ref a_se) rfl d_Fu_spoil_6 ?_
    refine gf_Fu_73 1 rfl (v := .int se_size) rfl d_Fu_spoil_9 ?_
    refine g_icmp_lt (tgt := 23) d_Fu_spoil_12 (by decide) (fun hc => ?_) (fun hc => ?_)
    · replace h := it_t hc h
      refine g_aload_n d_Fu_spoil_23 rfl ?_
      refine gf_Fu_10 0 rfl (v := .ref a_se) rfl d_Fu_spoil_24 ?_
      refine g_iload_n d_Fu_spoil_27 rfl ?_
      refine g_iload_n d_Fu_spoil_28 rfl ?_
      obtain ⟨q29, hq29, h⟩ := it_b h
      refine g_callV (ci := 8) (q := (xR_Se, xF_Se, 2)) (As := [.int k1, .int b1]) (rest := []) (st2 := [.int q29.1]) (ws2 := [(a_t, .inr (10, [.ref a_se, .ref a_la, .ref a_tr, .ref a_me, .ref a_fr, .ref a_ca, .ref a_rk, .int t_lastValue])), (a_se, .inr (8, [.ref a_bb, .int se_size])), (a_bb, .inl (K 0, 512, .inl q29.2))]) (c_Se_replace l D K a_se a_bb se_size bb k1 b1 q29 hq29) (cs_Fu_89 rfl rfl ⟨Nat.le_of_ble_eq_true rfl, Nat.le_of_ble_eq_true rfl⟩) rfl 1 rfl (gOver.mk2 [1, 2] [none, some 0, some 1] (by decide) (by decide) rfl rfl rfl) (Nat.le_of_ble_eq_true rfl) ⟨Nat.le_of_ble_eq_true rfl, Nat.le_of_ble_eq_true rfl⟩ d_Fu_spoil_29 rfl rfl ?_
      obtain rfl := gInr h
      exact g_iret rfl d_Fu_spoil_32
    · replace h := it_f hc h
      exact absurd h (by simp)
set_option maxRecDepth 100000 in
set_option maxHeartbeats 4000000 in
theorem x4_Fu_spoil (l : Launch) (hl : l.stackTraces = false) (D : va_G) (K : Nat → ClassId) (a_t a_se a_bb a_la a_tr a_me a_fr a_ca a_rk : Nat) (t_lastValue : Int32) (se_size : Int32) (bb : Nat → Int32) (k1 : Int32) (b1 : Int32) (o : (Nat → Int32)) (h : f_Fu_spoil se_size bb k1 b1 = some (.inl (4, o))) : CtT l y_Fu_spoil b_Fu_spoil 3 (some .int) { frames := 6, cells := 1, slots := 6, locals := 81 } D vwCl (xTy K) [.ref a_t, .int k1, .int b1] [(a_t, .inr (10, [.ref a_se, .ref a_la, .ref a_tr, .ref a_me, .ref a_fr, .ref a_ca, .ref a_rk, .int t_lastValue])), (a_se, .inr (8, [.ref a_bb, .int se_size])), (a_bb, .inl (K 0, 512, .inl bb))] "java/lang/IndexOutOfBoundsException" [(a_t, .inr (10, [.ref a_se, .ref a_la, .ref a_tr, .ref a_me, .ref a_fr, .ref a_ca, .ref a_rk, .int t_lastValue])), (a_se, .inr (8, [.ref a_bb, .int se_size])), (a_bb, .inl (K 0, 512, .inl o))] := by
  refine CtT.ofG (by decide) (Nat.le_of_ble_eq_true rfl) ?_
  refine g_L (L' := [(0, .ref a_t), (1, .int k1), (2, .int b1)]) rfl ?_
  unfold f_Fu_spoil at h
  refine g_iload_n d_Fu_spoil_0 rfl ?_
  refine g_if_lt (tgt := 15) d_Fu_spoil_1 (by decide) (fun hc => ?_) (fun hc => ?_)
  · replace h := it_t hc h
    obtain rfl := gInl h
    exact g_throw hl tb_502 th_Fu_86 (by decide) (by decide) (by decide) (by decide) d_Fu_spoil_15 d_Fu_spoil_18 d_Fu_spoil_19 d_Fu_spoil_22
  · replace h := it_f hc h
    refine g_iload_n d_Fu_spoil_4 rfl ?_
    refine g_aload_n d_Fu_spoil_5 rfl ?_
    refine gf_Fu_10 0 rfl (v := .ref a_se) rfl d_Fu_spoil_6 ?_
    refine gf_Fu_73 1 rfl (v := .int se_size) rfl d_Fu_spoil_9 ?_
    refine g_icmp_lt (tgt := 23) d_Fu_spoil_12 (by decide) (fun hc => ?_) (fun hc => ?_)
    · replace h := it_t hc h
      refine g_aload_n d_Fu_spoil_23 rfl ?_
      refine gf_Fu_10 0 rfl (v := .ref a_se) rfl d_Fu_spoil_24 ?_
      refine g_iload_n d_Fu_spoil_27 rfl ?_
      refine g_iload_n d_Fu_spoil_28 rfl ?_
      obtain ⟨q29, hq29, h⟩ := it_b h
      refine g_callV (ci := 8) (q := (xR_Se, xF_Se, 2)) (As := [.int k1, .int b1]) (rest := []) (st2 := [.int q29.1]) (ws2 := [(a_t, .inr (10, [.ref a_se, .ref a_la, .ref a_tr, .ref a_me, .ref a_fr, .ref a_ca, .ref a_rk, .int t_lastValue])), (a_se, .inr (8, [.ref a_bb, .int se_size])), (a_bb, .inl (K 0, 512, .inl q29.2))]) (c_Se_replace l D K a_se a_bb se_size bb k1 b1 q29 hq29) (cs_Fu_89 rfl rfl ⟨Nat.le_of_ble_eq_true rfl, Nat.le_of_ble_eq_true rfl⟩) rfl 1 rfl (gOver.mk2 [1, 2] [none, some 0, some 1] (by decide) (by decide) rfl rfl rfl) (Nat.le_of_ble_eq_true rfl) ⟨Nat.le_of_ble_eq_true rfl, Nat.le_of_ble_eq_true rfl⟩ d_Fu_spoil_29 rfl rfl ?_
      exact absurd h (by simp)
    · replace h := it_f hc h
      obtain rfl := gInl h
      exact g_throw hl tb_502 th_Fu_86 (by decide) (by decide) (by decide) (by decide) d_Fu_spoil_15 d_Fu_spoil_18 d_Fu_spoil_19 d_Fu_spoil_22
def f_Fu_find (se_size : Int32) (bb : Nat → Int32) (rd_at : Int32) (rd_limit : Int32) (rd_broken : Int32) (la_count : Int32) (li_operation : Int32) (li_register : Int32) (li_number : Int32) (li_bytesFrom : Int32) (en_isFrame : Nat → Int32) (en_begins : Nat → Int32) (en_instructions : Nat → Int32) (en_ends : Nat → Int32) (en_common : Nat → Int32) (en_code : Nat → Int32) (en_data : Nat → Int32) (en_returnRegister : Nat → Int32) (en_first : Nat → Int32) (en_range : Nat → Int32) (p1 : Int32) : Option ((Nat × Int32 × Int32 × Int32 × Int32 × Int32 × Int32 × Int32 × Int32 × (Nat → Int32) × (Nat → Int32) × (Nat → Int32) × (Nat → Int32) × (Nat → Int32) × (Nat → Int32) × (Nat → Int32) × (Nat → Int32) × (Nat → Int32) × (Nat → Int32)) ⊕ (Int32 × Int32 × Int32 × Int32 × Int32 × Int32 × Int32 × Int32 × Int32 × (Nat → Int32) × (Nat → Int32) × (Nat → Int32) × (Nat → Int32) × (Nat → Int32) × (Nat → Int32) × (Nat → Int32) × (Nat → Int32) × (Nat → Int32) × (Nat → Int32))) := ((f_La_firstFault la_count se_size bb rd_at rd_limit rd_broken li_operation li_register li_number li_bytesFrom en_isFrame en_begins en_instructions en_ends en_common en_code en_data en_returnRegister en_first en_range).bind fun q4 => if q4.1 = (-1) then (((f_La_indexAt q4.2.1 q4.2.2.2.2.2.2.2.2.2.1 q4.2.2.2.2.2.2.2.2.2.2.2.2.2.2.2.2.2.1 q4.2.2.2.2.2.2.2.2.2.2.2.2.2.2.2.2.2.2 p1).bind fun q24 => some (.inr (q24, q4.2.2.1, q4.2.2.2.1, q4.2.2.2.2.1, q4.2.1, q4.2.2.2.2.2.1, q4.2.2.2.2.2.2.1, q4.2.2.2.2.2.2.2.1, q4.2.2.2.2.2.2.2.2.1, q4.2.2.2.2.2.2.2.2.2.1, q4.2.2.2.2.2.2.2.2.2.2.1, q4.2.2.2.2.2.2.2.2.2.2.2.1, q4.2.2.2.2.2.2.2.2.2.2.2.2.1, q4.2.2.2.2.2.2.2.2.2.2.2.2.2.1, q4.2.2.2.2.2.2.2.2.2.2.2.2.2.2.1, q4.2.2.2.2.2.2.2.2.2.2.2.2.2.2.2.1, q4.2.2.2.2.2.2.2.2.2.2.2.2.2.2.2.2.1, q4.2.2.2.2.2.2.2.2.2.2.2.2.2.2.2.2.2.1, q4.2.2.2.2.2.2.2.2.2.2.2.2.2.2.2.2.2.2)))) else (some (.inl (1, (q4.2.2.1, q4.2.2.2.1, q4.2.2.2.2.1, q4.2.1, q4.2.2.2.2.2.1, q4.2.2.2.2.2.2.1, q4.2.2.2.2.2.2.2.1, q4.2.2.2.2.2.2.2.2.1, q4.2.2.2.2.2.2.2.2.2.1, q4.2.2.2.2.2.2.2.2.2.2.1, q4.2.2.2.2.2.2.2.2.2.2.2.1, q4.2.2.2.2.2.2.2.2.2.2.2.2.1, q4.2.2.2.2.2.2.2.2.2.2.2.2.2.1, q4.2.2.2.2.2.2.2.2.2.2.2.2.2.2.1, q4.2.2.2.2.2.2.2.2.2.2.2.2.2.2.2.1, q4.2.2.2.2.2.2.2.2.2.2.2.2.2.2.2.2.1, q4.2.2.2.2.2.2.2.2.2.2.2.2.2.2.2.2.2.1, q4.2.2.2.2.2.2.2.2.2.2.2.2.2.2.2.2.2.2)))))
set_option maxRecDepth 100000 in
set_option maxHeartbeats 4000000 in
theorem c_Fu_find (l : Launch) (D : va_G) (K : Nat → ClassId) (a_t a_se a_bb a_rd a_la a_li a_ls a_tr a_me a_fr a_ca a_rk : Nat) (a_en : Nat → Nat) (t_lastValue : Int32) (se_size : Int32) (bb : Nat → Int32) (rd_at : Int32) (rd_limit : Int32) (rd_broken : Int32) (la_count : Int32) (li_operation : Int32) (li_register : Int32) (li_number : Int32) (li_bytesFrom : Int32) (en_isFrame : Nat → Int32) (en_begins : Nat → Int32) (en_instructions : Nat → Int32) (en_ends : Nat → Int32) (en_common : Nat → Int32) (en_code : Nat → Int32) (en_data : Nat → Int32) (en_returnRegister : Nat → Int32) (en_first : Nat → Int32) (en_range : Nat → Int32) (p1 : Int32) (o : Int32 × Int32 × Int32 × Int32 × Int32 × Int32 × Int32 × Int32 × Int32 × (Nat → Int32) × (Nat → Int32) × (Nat → Int32) × (Nat → Int32) × (Nat → Int32) × (Nat → Int32) × (Nat → Int32) × (Nat → Int32) × (Nat → Int32) × (Nat → Int32)) (h : f_Fu_find se_size bb rd_at rd_limit rd_broken la_count li_operation li_register li_number li_bytesFrom en_isFrame en_begins en_instructions en_ends en_common en_code en_data en_returnRegister en_first en_range p1 = some (.inr o)) : Ct l y_Fu_find b_Fu_find 2 (some .int) { frames := 6, cells := 0, slots := 0, locals := 138 } D vwCl (xTy K) [.ref a_t, .int p1] ([(a_t, .inr (10, [.ref a_se, .ref a_la, .ref a_tr, .ref a_me, .ref a_fr, .ref a_ca, .ref a_rk, .int t_lastValue])), (a_se, .inr (8, [.ref a_bb, .int se_size])), (a_bb, .inl (K 0, 512, .inl bb)), (a_rd, .inr (5, [.ref a_bb, .int rd_at, .int rd_limit, .int rd_broken])), (a_la, .inr (3, [.ref a_se, .ref a_rd, .ref a_li, .ref a_ls, .int la_count])), (a_li, .inr (2, [.int li_operation, .int li_register, .int li_number, .int li_bytesFrom])), (a_ls, .inl (K 4, 16, .inr (.inr (.inr (.inr (fun k9 => some (a_en k9)))))))] ++ (List.range 16).map (fun k9 => (a_en k9, .inr (0, [.int (en_isFrame k9), .int (en_begins k9), .int (en_instructions k9), .int (en_ends k9), .int (en_common k9), .int (en_code k9), .int (en_data k9), .int (en_returnRegister k9), .int (en_first k9), .int (en_range k9)])))) (some (.int o.1)) ([(a_t, .inr (10, [.ref a_se, .ref a_la, .ref a_tr, .ref a_me, .ref a_fr, .ref a_ca, .ref a_rk, .int t_lastValue])), (a_se, .inr (8, [.ref a_bb, .int se_size])), (a_bb, .inl (K 0, 512, .inl bb)), (a_rd, .inr (5, [.ref a_bb, .int o.2.1, .int o.2.2.1, .int o.2.2.2.1])), (a_la, .inr (3, [.ref a_se, .ref a_rd, .ref a_li, .ref a_ls, .int o.2.2.2.2.1])), (a_li, .inr (2, [.int o.2.2.2.2.2.1, .int o.2.2.2.2.2.2.1, .int o.2.2.2.2.2.2.2.1, .int o.2.2.2.2.2.2.2.2.1])), (a_ls, .inl (K 4, 16, .inr (.inr (.inr (.inr (fun k9 => some (a_en k9)))))))] ++ (List.range 16).map (fun k9 => (a_en k9, .inr (0, [.int (o.2.2.2.2.2.2.2.2.2.1 k9), .int (o.2.2.2.2.2.2.2.2.2.2.1 k9), .int (o.2.2.2.2.2.2.2.2.2.2.2.1 k9), .int (o.2.2.2.2.2.2.2.2.2.2.2.2.1 k9), .int (o.2.2.2.2.2.2.2.2.2.2.2.2.2.1 k9), .int (o.2.2.2.2.2.2.2.2.2.2.2.2.2.2.1 k9), .int (o.2.2.2.2.2.2.2.2.2.2.2.2.2.2.2.1 k9), .int (o.2.2.2.2.2.2.2.2.2.2.2.2.2.2.2.2.1 k9), .int (o.2.2.2.2.2.2.2.2.2.2.2.2.2.2.2.2.2.1 k9), .int (o.2.2.2.2.2.2.2.2.2.2.2.2.2.2.2.2.2.2 k9)])))) := by
  refine Ct.ofG (by decide) (Nat.le_of_ble_eq_true rfl) ?_
  refine g_L (L' := [(0, .ref a_t), (1, .int p1)]) rfl ?_
  unfold f_Fu_find at h
  refine g_aload_n d_Fu_find_0 rfl ?_
  refine gf_Fu_30 0 rfl (v := .ref a_la) rfl d_Fu_find_1 ?_
  obtain ⟨q4, hq4, h⟩ := it_b h
  refine g_callV (ci := 3) (q := (xR_La, xF_La, 5)) (As := []) (rest := []) (st2 := [.int q4.1]) (ws2 := ([(a_t, .inr (10, [.ref a_se, .ref a_la, .ref a_tr, .ref a_me, .ref a_fr, .ref a_ca, .ref a_rk, .int t_lastValue])), (a_se, .inr (8, [.ref a_bb, .int se_size])), (a_bb, .inl (K 0, 512, .inl bb)), (a_rd, .inr (5, [.ref a_bb, .int q4.2.2.1, .int q4.2.2.2.1, .int q4.2.2.2.2.1])), (a_la, .inr (3, [.ref a_se, .ref a_rd, .ref a_li, .ref a_ls, .int q4.2.1])), (a_li, .inr (2, [.int q4.2.2.2.2.2.1, .int q4.2.2.2.2.2.2.1, .int q4.2.2.2.2.2.2.2.1, .int q4.2.2.2.2.2.2.2.2.1])), (a_ls, .inl (K 4, 16, .inr (.inr (.inr (.inr (fun k9 => some (a_en k9)))))))] ++ (List.range 16).map (fun k9 => (a_en k9, .inr (0, [.int (q4.2.2.2.2.2.2.2.2.2.1 k9), .int (q4.2.2.2.2.2.2.2.2.2.2.1 k9), .int (q4.2.2.2.2.2.2.2.2.2.2.2.1 k9), .int (q4.2.2.2.2.2.2.2.2.2.2.2.2.1 k9), .int (q4.2.2.2.2.2.2.2.2.2.2.2.2.2.1 k9), .int (q4.2.2.2.2.2.2.2.2.2.2.2.2.2.2.1 k9), .int (q4.2.2.2.2.2.2.2.2.2.2.2.2.2.2.2.1 k9), .int (q4.2.2.2.2.2.2.2.2.2.2.2.2.2.2.2.2.1 k9), .int (q4.2.2.2.2.2.2.2.2.2.2.2.2.2.2.2.2.2.1 k9), .int (q4.2.2.2.2.2.2.2.2.2.2.2.2.2.2.2.2.2.2 k9)]))))) (c_La_firstFault l D K a_la a_se a_bb a_rd a_li a_ls a_en la_count se_size bb rd_at rd_limit rd_broken li_operation li_register li_number li_bytesFrom en_isFrame en_begins en_instructions en_ends en_common en_code en_data en_returnRegister en_first en_range q4 hq4) (cs_Fu_93 rfl rfl ⟨Nat.le_of_ble_eq_true rfl, Nat.le_of_ble_eq_true rfl⟩) rfl 4 rfl (by refine gOver.plG (gOver.mk2 [4, 1, 2, 3, 5, 6] [none, some 1, some 2, some 3, some 0, some 4, some 5] (by decide) (by decide) ?_ ?_ ?_) (fun _ => ?_) <;> rfl) (Nat.le_of_ble_eq_true rfl) ⟨Nat.le_of_ble_eq_true rfl, Nat.le_of_ble_eq_true rfl⟩ d_Fu_find_4 rfl rfl ?_
  refine g_iconst (v := (-1)) d_Fu_find_7 (by decide) ?_
  refine g_icmp_eq (tgt := 19) d_Fu_find_8 (by decide) (fun hc => ?_) (fun hc => ?_)
  · replace h := it_t hc h
    refine g_aload_n d_Fu_find_19 rfl ?_
    refine gf_Fu_30 0 rfl (v := .ref a_la) rfl d_Fu_find_20 ?_
    refine g_iload_n d_Fu_find_23 rfl ?_
    obtain ⟨q24, hq24, h⟩ := it_b h
    refine g_callV (ci := 3) (q := (xR_La, xF_La, 5)) (As := [.int p1]) (rest := []) (st2 := [.int q24]) (ws2 := ([(a_t, .inr (10, [.ref a_se, .ref a_la, .ref a_tr, .ref a_me, .ref a_fr, .ref a_ca, .ref a_rk, .int t_lastValue])), (a_se, .inr (8, [.ref a_bb, .int se_size])), (a_bb, .inl (K 0, 512, .inl bb)), (a_rd, .inr (5, [.ref a_bb, .int q4.2.2.1, .int q4.2.2.2.1, .int q4.2.2.2.2.1])), (a_la, .inr (3, [.ref a_se, .ref a_rd, .ref a_li, .ref a_ls, .int q4.2.1])), (a_li, .inr (2, [.int q4.2.2.2.2.2.1, .int q4.2.2.2.2.2.2.1, .int q4.2.2.2.2.2.2.2.1, .int q4.2.2.2.2.2.2.2.2.1])), (a_ls, .inl (K 4, 16, .inr (.inr (.inr (.inr (fun k9 => some (a_en k9)))))))] ++ (List.range 16).map (fun k9 => (a_en k9, .inr (0, [.int (q4.2.2.2.2.2.2.2.2.2.1 k9), .int (q4.2.2.2.2.2.2.2.2.2.2.1 k9), .int (q4.2.2.2.2.2.2.2.2.2.2.2.1 k9), .int (q4.2.2.2.2.2.2.2.2.2.2.2.2.1 k9), .int (q4.2.2.2.2.2.2.2.2.2.2.2.2.2.1 k9), .int (q4.2.2.2.2.2.2.2.2.2.2.2.2.2.2.1 k9), .int (q4.2.2.2.2.2.2.2.2.2.2.2.2.2.2.2.1 k9), .int (q4.2.2.2.2.2.2.2.2.2.2.2.2.2.2.2.2.1 k9), .int (q4.2.2.2.2.2.2.2.2.2.2.2.2.2.2.2.2.2.1 k9), .int (q4.2.2.2.2.2.2.2.2.2.2.2.2.2.2.2.2.2.2 k9)]))))) (c_La_indexAt l D K a_la a_se a_rd a_li a_ls a_en q4.2.1 q4.2.2.2.2.2.2.2.2.2.1 q4.2.2.2.2.2.2.2.2.2.2.1 q4.2.2.2.2.2.2.2.2.2.2.2.1 q4.2.2.2.2.2.2.2.2.2.2.2.2.1 q4.2.2.2.2.2.2.2.2.2.2.2.2.2.1 q4.2.2.2.2.2.2.2.2.2.2.2.2.2.2.1 q4.2.2.2.2.2.2.2.2.2.2.2.2.2.2.2.1 q4.2.2.2.2.2.2.2.2.2.2.2.2.2.2.2.2.1 q4.2.2.2.2.2.2.2.2.2.2.2.2.2.2.2.2.2.1 q4.2.2.2.2.2.2.2.2.2.2.2.2.2.2.2.2.2.2 p1 q24 hq24) (cs_Fu_103 rfl rfl ⟨Nat.le_of_ble_eq_true rfl, Nat.le_of_ble_eq_true rfl⟩) rfl 4 rfl (by refine gOver.plG (gOver.mk2 [4, 6] [none, none, none, none, some 0, none, some 1] (by decide) (by decide) ?_ ?_ ?_) (fun _ => ?_) <;> rfl) (Nat.le_of_ble_eq_true rfl) ⟨Nat.le_of_ble_eq_true rfl, Nat.le_of_ble_eq_true rfl⟩ d_Fu_find_24 rfl rfl ?_
    obtain rfl := gInr h
    exact g_iret rfl d_Fu_find_27
  · replace h := it_f hc h
    exact absurd h (by simp)
set_option maxRecDepth 100000 in
set_option maxHeartbeats 4000000 in
theorem x1_Fu_find (l : Launch) (hl : l.stackTraces = false) (D : va_G) (K : Nat → ClassId) (a_t a_se a_bb a_rd a_la a_li a_ls a_tr a_me a_fr a_ca a_rk : Nat) (a_en : Nat → Nat) (t_lastValue : Int32) (se_size : Int32) (bb : Nat → Int32) (rd_at : Int32) (rd_limit : Int32) (rd_broken : Int32) (la_count : Int32) (li_operation : Int32) (li_register : Int32) (li_number : Int32) (li_bytesFrom : Int32) (en_isFrame : Nat → Int32) (en_begins : Nat → Int32) (en_instructions : Nat → Int32) (en_ends : Nat → Int32) (en_common : Nat → Int32) (en_code : Nat → Int32) (en_data : Nat → Int32) (en_returnRegister : Nat → Int32) (en_first : Nat → Int32) (en_range : Nat → Int32) (p1 : Int32) (o : Int32 × Int32 × Int32 × Int32 × Int32 × Int32 × Int32 × Int32 × (Nat → Int32) × (Nat → Int32) × (Nat → Int32) × (Nat → Int32) × (Nat → Int32) × (Nat → Int32) × (Nat → Int32) × (Nat → Int32) × (Nat → Int32) × (Nat → Int32)) (h : f_Fu_find se_size bb rd_at rd_limit rd_broken la_count li_operation li_register li_number li_bytesFrom en_isFrame en_begins en_instructions en_ends en_common en_code en_data en_returnRegister en_first en_range p1 = some (.inl (1, o))) : CtT l y_Fu_find b_Fu_find 2 (some .int) { frames := 6, cells := 1, slots := 6, locals := 138 } D vwCl (xTy K) [.ref a_t, .int p1] ([(a_t, .inr (10, [.ref a_se, .ref a_la, .ref a_tr, .ref a_me, .ref a_fr, .ref a_ca, .ref a_rk, .int t_lastValue])), (a_se, .inr (8, [.ref a_bb, .int se_size])), (a_bb, .inl (K 0, 512, .inl bb)), (a_rd, .inr (5, [.ref a_bb, .int rd_at, .int rd_limit, .int rd_broken])), (a_la, .inr (3, [.ref a_se, .ref a_rd, .ref a_li, .ref a_ls, .int la_count])), (a_li, .inr (2, [.int li_operation, .int li_register, .int li_number, .int li_bytesFrom])), (a_ls, .inl (K 4, 16, .inr (.inr (.inr (.inr (fun k9 => some (a_en k9)))))))] ++ (List.range 16).map (fun k9 => (a_en k9, .inr (0, [.int (en_isFrame k9), .int (en_begins k9), .int (en_instructions k9), .int (en_ends k9), .int (en_common k9), .int (en_code k9), .int (en_data k9), .int (en_returnRegister k9), .int (en_first k9), .int (en_range k9)])))) "java/lang/IllegalStateException" ([(a_t, .inr (10, [.ref a_se, .ref a_la, .ref a_tr, .ref a_me, .ref a_fr, .ref a_ca, .ref a_rk, .int t_lastValue])), (a_se, .inr (8, [.ref a_bb, .int se_size])), (a_bb, .inl (K 0, 512, .inl bb)), (a_rd, .inr (5, [.ref a_bb, .int o.1, .int o.2.1, .int o.2.2.1])), (a_la, .inr (3, [.ref a_se, .ref a_rd, .ref a_li, .ref a_ls, .int o.2.2.2.1])), (a_li, .inr (2, [.int o.2.2.2.2.1, .int o.2.2.2.2.2.1, .int o.2.2.2.2.2.2.1, .int o.2.2.2.2.2.2.2.1])), (a_ls, .inl (K 4, 16, .inr (.inr (.inr (.inr (fun k9 => some (a_en k9)))))))] ++ (List.range 16).map (fun k9 => (a_en k9, .inr (0, [.int (o.2.2.2.2.2.2.2.2.1 k9), .int (o.2.2.2.2.2.2.2.2.2.1 k9), .int (o.2.2.2.2.2.2.2.2.2.2.1 k9), .int (o.2.2.2.2.2.2.2.2.2.2.2.1 k9), .int (o.2.2.2.2.2.2.2.2.2.2.2.2.1 k9), .int (o.2.2.2.2.2.2.2.2.2.2.2.2.2.1 k9), .int (o.2.2.2.2.2.2.2.2.2.2.2.2.2.2.1 k9), .int (o.2.2.2.2.2.2.2.2.2.2.2.2.2.2.2.1 k9), .int (o.2.2.2.2.2.2.2.2.2.2.2.2.2.2.2.2.1 k9), .int (o.2.2.2.2.2.2.2.2.2.2.2.2.2.2.2.2.2 k9)])))) := by
  refine CtT.ofG (by decide) (Nat.le_of_ble_eq_true rfl) ?_
  refine g_L (L' := [(0, .ref a_t), (1, .int p1)]) rfl ?_
  unfold f_Fu_find at h
  refine g_aload_n d_Fu_find_0 rfl ?_
  refine gf_Fu_30 0 rfl (v := .ref a_la) rfl d_Fu_find_1 ?_
  obtain ⟨q4, hq4, h⟩ := it_b h
  refine g_callV (ci := 3) (q := (xR_La, xF_La, 5)) (As := []) (rest := []) (st2 := [.int q4.1]) (ws2 := ([(a_t, .inr (10, [.ref a_se, .ref a_la, .ref a_tr, .ref a_me, .ref a_fr, .ref a_ca, .ref a_rk, .int t_lastValue])), (a_se, .inr (8, [.ref a_bb, .int se_size])), (a_bb, .inl (K 0, 512, .inl bb)), (a_rd, .inr (5, [.ref a_bb, .int q4.2.2.1, .int q4.2.2.2.1, .int q4.2.2.2.2.1])), (a_la, .inr (3, [.ref a_se, .ref a_rd, .ref a_li, .ref a_ls, .int q4.2.1])), (a_li, .inr (2, [.int q4.2.2.2.2.2.1, .int q4.2.2.2.2.2.2.1, .int q4.2.2.2.2.2.2.2.1, .int q4.2.2.2.2.2.2.2.2.1])), (a_ls, .inl (K 4, 16, .inr (.inr (.inr (.inr (fun k9 => some (a_en k9)))))))] ++ (List.range 16).map (fun k9 => (a_en k9, .inr (0, [.int (q4.2.2.2.2.2.2.2.2.2.1 k9), .int (q4.2.2.2.2.2.2.2.2.2.2.1 k9), .int (q4.2.2.2.2.2.2.2.2.2.2.2.1 k9), .int (q4.2.2.2.2.2.2.2.2.2.2.2.2.1 k9), .int (q4.2.2.2.2.2.2.2.2.2.2.2.2.2.1 k9), .int (q4.2.2.2.2.2.2.2.2.2.2.2.2.2.2.1 k9), .int (q4.2.2.2.2.2.2.2.2.2.2.2.2.2.2.2.1 k9), .int (q4.2.2.2.2.2.2.2.2.2.2.2.2.2.2.2.2.1 k9), .int (q4.2.2.2.2.2.2.2.2.2.2.2.2.2.2.2.2.2.1 k9), .int (q4.2.2.2.2.2.2.2.2.2.2.2.2.2.2.2.2.2.2 k9)]))))) (c_La_firstFault l D K a_la a_se a_bb a_rd a_li a_ls a_en la_count se_size bb rd_at rd_limit rd_broken li_operation li_register li_number li_bytesFrom en_isFrame en_begins en_instructions en_ends en_common en_code en_data en_returnRegister en_first en_range q4 hq4) (cs_Fu_93 rfl rfl ⟨Nat.le_of_ble_eq_true rfl, Nat.le_of_ble_eq_true rfl⟩) rfl 4 rfl (by refine gOver.plG (gOver.mk2 [4, 1, 2, 3, 5, 6] [none, some 1, some 2, some 3, some 0, some 4, some 5] (by decide) (by decide) ?_ ?_ ?_) (fun _ => ?_) <;> rfl) (Nat.le_of_ble_eq_true rfl) ⟨Nat.le_of_ble_eq_true rfl, Nat.le_of_ble_eq_true rfl⟩ d_Fu_find_4 rfl rfl ?_
  refine g_iconst (v := (-1)) d_Fu_find_7 (by decide) ?_
  refine g_icmp_eq (tgt := 19) d_Fu_find_8 (by decide) (fun hc => ?_) (fun hc => ?_)
  · replace h := it_t hc h
    refine g_aload_n d_Fu_find_19 rfl ?_
    refine gf_Fu_30 0 rfl (v := .ref a_la) rfl d_Fu_find_20 ?_
    refine g_iload_n d_Fu_find_23 rfl ?_
    obtain ⟨q24, hq24, h⟩ := it_b h
    refine g_callV (ci := 3) (q := (xR_La, xF_La, 5)) (As := [.int p1]) (rest := []) (st2 := [.int q24]) (ws2 := ([(a_t, .inr (10, [.ref a_se, .ref a_la, .ref a_tr, .ref a_me, .ref a_fr, .ref a_ca, .ref a_rk, .int t_lastValue])), (a_se, .inr (8, [.ref a_bb, .int se_size])), (a_bb, .inl (K 0, 512, .inl bb)), (a_rd, .inr (5, [.ref a_bb, .int q4.2.2.1, .int q4.2.2.2.1, .int q4.2.2.2.2.1])), (a_la, .inr (3, [.ref a_se, .ref a_rd, .ref a_li, .ref a_ls, .int q4.2.1])), (a_li, .inr (2, [.int q4.2.2.2.2.2.1, .int q4.2.2.2.2.2.2.1, .int q4.2.2.2.2.2.2.2.1, .int q4.2.2.2.2.2.2.2.2.1])), (a_ls, .inl (K 4, 16, .inr (.inr (.inr (.inr (fun k9 => some (a_en k9)))))))] ++ (List.range 16).map (fun k9 => (a_en k9, .inr (0, [.int (q4.2.2.2.2.2.2.2.2.2.1 k9), .int (q4.2.2.2.2.2.2.2.2.2.2.1 k9), .int (q4.2.2.2.2.2.2.2.2.2.2.2.1 k9), .int (q4.2.2.2.2.2.2.2.2.2.2.2.2.1 k9), .int (q4.2.2.2.2.2.2.2.2.2.2.2.2.2.1 k9), .int (q4.2.2.2.2.2.2.2.2.2.2.2.2.2.2.1 k9), .int (q4.2.2.2.2.2.2.2.2.2.2.2.2.2.2.2.1 k9), .int (q4.2.2.2.2.2.2.2.2.2.2.2.2.2.2.2.2.1 k9), .int (q4.2.2.2.2.2.2.2.2.2.2.2.2.2.2.2.2.2.1 k9), .int (q4.2.2.2.2.2.2.2.2.2.2.2.2.2.2.2.2.2.2 k9)]))))) (c_La_indexAt l D K a_la a_se a_rd a_li a_ls a_en q4.2.1 q4.2.2.2.2.2.2.2.2.2.1 q4.2.2.2.2.2.2.2.2.2.2.1 q4.2.2.2.2.2.2.2.2.2.2.2.1 q4.2.2.2.2.2.2.2.2.2.2.2.2.1 q4.2.2.2.2.2.2.2.2.2.2.2.2.2.1 q4.2.2.2.2.2.2.2.2.2.2.2.2.2.2.1 q4.2.2.2.2.2.2.2.2.2.2.2.2.2.2.2.1 q4.2.2.2.2.2.2.2.2.2.2.2.2.2.2.2.2.1 q4.2.2.2.2.2.2.2.2.2.2.2.2.2.2.2.2.2.1 q4.2.2.2.2.2.2.2.2.2.2.2.2.2.2.2.2.2.2 p1 q24 hq24) (cs_Fu_103 rfl rfl ⟨Nat.le_of_ble_eq_true rfl, Nat.le_of_ble_eq_true rfl⟩) rfl 4 rfl (by refine gOver.plG (gOver.mk2 [4, 6] [none, none, none, none, some 0, none, some 1] (by decide) (by decide) ?_ ?_ ?_) (fun _ => ?_) <;> rfl) (Nat.le_of_ble_eq_true rfl) ⟨Nat.le_of_ble_eq_true rfl, Nat.le_of_ble_eq_true rfl⟩ d_Fu_find_24 rfl rfl ?_
    exact absurd h (by simp)
  · replace h := it_f hc h
    obtain rfl := gInl h
    exact g_throw hl tb_529 th_Fu_100 (by decide) (by decide) (by decide) (by decide) d_Fu_find_11 d_Fu_find_14 d_Fu_find_15 d_Fu_find_18
def f_Fu_word (mw : Nat → Int32) (a1 : Int32) (v1 : Int32) : Option ((Nat × (Nat → Int32)) ⊕ ((Nat → Int32))) := ((f_Me_has a1).bind fun q5 => if q5 = 0 then (some (.inl (4, mw))) else (((f_Me_store mw a1 v1).bind fun q25 => some (.inr q25))))
set_option maxRecDepth 100000 in
set_option maxHeartbeats 4000000 in
theorem c_Fu_word (l : Launch) (D : va_G) (K : Nat → ClassId) (a_t a_se a_la a_tr a_me a_mw a_fr a_ca a_rk : Nat) (t_lastValue : Int32) (mw : Nat → Int32) (a1 : Int32) (v1 : Int32) (o : (Nat → Int32)) (h : f_Fu_word mw a1 v1 = some (.inr o)) : Ct l y_Fu_word b_Fu_word 3 none { frames := 1, cells := 0, slots := 0, locals := 22 } D vwCl (xTy K) [.ref a_t, .int a1, .int v1] [(a_t, .inr (10, [.ref a_se, .ref a_la, .ref a_tr, .ref a_me, .ref a_fr, .ref a_ca, .ref a_rk, .int t_lastValue])), (a_me, .inr (4, [.ref a_mw])), (a_mw, .inl (K 1, 256, .inl mw))] none [(a_t, .inr (10, [.ref a_se, .ref a_la, .ref a_tr, .ref a_me, .ref a_fr, .ref a_ca, .ref a_rk, .int t_lastValue])), (a_me, .inr (4, [.ref a_mw])), (a_mw, .inl (K 1, 256, .inl o))] := by
  refine Ct.ofG (by decide) (Nat.le_of_ble_eq_true rfl) ?_
  refine g_L (L' := [(0, .ref a_t), (1, .int a1), (2, .int v1)]) rfl ?_
  unfold f_Fu_word at h
  refine g_aload_n d_Fu_word_0 rfl ?_
  refine gf_Fu_46 0 rfl (v := .ref a_me) rfl d_Fu_word_1 ?_
  refine g_iload_n d_Fu_word_4 rfl ?_
  obtain ⟨q5, hq5, h⟩ := it_b h
  refine g_callV (ci := 4) (q := (xR_Me, xF_Me, 1)) (As := [.int a1]) (rest := []) (st2 := [.int q5]) (ws2 := [(a_t, .inr (10, [.ref a_se, .ref a_la, .ref a_tr, .ref a_me, .ref a_fr, .ref a_ca, .ref a_rk, .int t_lastValue])), (a_me, .inr (4, [.ref a_mw])), (a_mw, .inl (K 1, 256, .inl mw))]) (c_Me_has l D K a_me a1 q5 hq5) (cs_Fu_128 rfl rfl ⟨Nat.le_of_ble_eq_true rfl, Nat.le_of_ble_eq_true rfl⟩) rfl 1 rfl (gOver.rd [] (by decide) rfl) (Nat.le_of_ble_eq_true rfl) ⟨Nat.le_of_ble_eq_true rfl, Nat.le_of_ble_eq_true rfl⟩ d_Fu_word_5 rfl rfl ?_
  refine g_if_ne (tgt := 19) d_Fu_word_8 (by decide) (fun hc => ?_) (fun hc => ?_)
  · replace h := it_f hc h
    refine g_aload_n d_Fu_word_19 rfl ?_
    refine gf_Fu_46 0 rfl (v := .ref a_me) rfl d_Fu_word_20 ?_
    refine g_iload_n d_Fu_word_23 rfl ?_
    refine g_iload_n d_Fu_word_24 rfl ?_
    obtain ⟨q25, hq25, h⟩ := it_b h
    refine g_callV (ci := 4) (q := (xR_Me, xF_Me, 1)) (As := [.int a1, .int v1]) (rest := []) (st2 := []) (ws2 := [(a_t, .inr (10, [.ref a_se, .ref a_la, .ref a_tr, .ref a_me, .ref a_fr, .ref a_ca, .ref a_rk, .int t_lastValue])), (a_me, .inr (4, [.ref a_mw])), (a_mw, .inl (K 1, 256, .inl q25))]) (c_Me_store l D K a_me a_mw mw a1 v1 q25 hq25) (cs_Fu_132 rfl rfl ⟨Nat.le_of_ble_eq_true rfl, Nat.le_of_ble_eq_true rfl⟩) rfl 1 rfl (gOver.mk2 [1, 2] [none, some 0, some 1] (by decide) (by decide) rfl rfl rfl) (Nat.le_of_ble_eq_true rfl) ⟨Nat.le_of_ble_eq_true rfl, Nat.le_of_ble_eq_true rfl⟩ d_Fu_word_25 rfl rfl ?_
    obtain rfl := gInr h
    exact g_vret rfl d_Fu_word_28
  · replace h := it_t hc h
    exact absurd h (by simp)
set_option maxRecDepth 100000 in
set_option maxHeartbeats 4000000 in
theorem x4_Fu_word (l : Launch) (hl : l.stackTraces = false) (D : va_G) (K : Nat → ClassId) (a_t a_se a_la a_tr a_me a_mw a_fr a_ca a_rk : Nat) (t_lastValue : Int32) (mw : Nat → Int32) (a1 : Int32) (v1 : Int32) (o : (Nat → Int32)) (h : f_Fu_word mw a1 v1 = some (.inl (4, o))) : CtT l y_Fu_word b_Fu_word 3 none { frames := 6, cells := 1, slots := 6, locals := 81 } D vwCl (xTy K) [.ref a_t, .int a1, .int v1] [(a_t, .inr (10, [.ref a_se, .ref a_la, .ref a_tr, .ref a_me, .ref a_fr, .ref a_ca, .ref a_rk, .int t_lastValue])), (a_me, .inr (4, [.ref a_mw])), (a_mw, .inl (K 1, 256, .inl mw))] "java/lang/IndexOutOfBoundsException" [(a_t, .inr (10, [.ref a_se, .ref a_la, .ref a_tr, .ref a_me, .ref a_fr, .ref a_ca, .ref a_rk, .int t_lastValue])), (a_me, .inr (4, [.ref a_mw])), (a_mw, .inl (K 1, 256, .inl o))] := by
  refine CtT.ofG (by decide) (Nat.le_of_ble_eq_true rfl) ?_
  refine g_L (L' := [(0, .ref a_t), (1, .int a1), (2, .int v1)]) rfl ?_
  unfold f_Fu_word at h
  refine g_aload_n d_Fu_word_0 rfl ?_
  refine gf_Fu_46 0 rfl (v := .ref a_me) rfl d_Fu_word_1 ?_
  refine g_iload_n d_Fu_word_4 rfl ?_
  obtain ⟨q5, hq5, h⟩ := it_b h
  refine g_callV (ci := 4) (q := (xR_Me, xF_Me, 1)) (As := [.int a1]) (rest := []) (st2 := [.int q5]) (ws2 := [(a_t, .inr (10, [.ref a_se, .ref a_la, .ref a_tr, .ref a_me, .ref a_fr, .ref a_ca, .ref a_rk, .int t_lastValue])), (a_me, .inr (4, [.ref a_mw])), (a_mw, .inl (K 1, 256, .inl mw))]) (c_Me_has l D K a_me a1 q5 hq5) (cs_Fu_128 rfl rfl ⟨Nat.le_of_ble_eq_true rfl, Nat.le_of_ble_eq_true rfl⟩) rfl 1 rfl (gOver.rd [] (by decide) rfl) (Nat.le_of_ble_eq_true rfl) ⟨Nat.le_of_ble_eq_true rfl, Nat.le_of_ble_eq_true rfl⟩ d_Fu_word_5 rfl rfl ?_
  refine g_if_ne (tgt := 19) d_Fu_word_8 (by decide) (fun hc => ?_) (fun hc => ?_)
  · replace h := it_f hc h
    refine g_aload_n d_Fu_word_19 rfl ?_
    refine gf_Fu_46 0 rfl (v := .ref a_me) rfl d_Fu_word_20 ?_
    refine g_iload_n d_Fu_word_23 rfl ?_
    refine g_iload_n d_Fu_word_24 rfl ?_
    obtain ⟨q25, hq25, h⟩ := it_b h
    refine g_callV (ci := 4) (q := (xR_Me, xF_Me, 1)) (As := [.int a1, .int v1]) (rest := []) (st2 := []) (ws2 := [(a_t, .inr (10, [.ref a_se, .ref a_la, .ref a_tr, .ref a_me, .ref a_fr, .ref a_ca, .ref a_rk, .int t_lastValue])), (a_me, .inr (4, [.ref a_mw])), (a_mw, .inl (K 1, 256, .inl q25))]) (c_Me_store l D K a_me a_mw mw a1 v1 q25 hq25) (cs_Fu_132 rfl rfl ⟨Nat.le_of_ble_eq_true rfl, Nat.le_of_ble_eq_true rfl⟩) rfl 1 rfl (gOver.mk2 [1, 2] [none, some 0, some 1] (by decide) (by decide) rfl rfl rfl) (Nat.le_of_ble_eq_true rfl) ⟨Nat.le_of_ble_eq_true rfl, Nat.le_of_ble_eq_true rfl⟩ d_Fu_word_25 rfl rfl ?_
    exact absurd h (by simp)
  · replace h := it_t hc h
    obtain rfl := gInl h
    exact g_throw hl tb_656 th_Fu_86 (by decide) (by decide) (by decide) (by decide) d_Fu_word_11 d_Fu_word_14 d_Fu_word_15 d_Fu_word_18
def f_Fu_register (fr_known : Int32) (fv : Nat → Int32) (r1 : Int32) (v1 : Int32) : Option ((Nat × Int32 × (Nat → Int32)) ⊕ (Int32 × (Nat → Int32))) := if r1 < 0 then (some (.inl (4, (fr_known, fv)))) else (if r1 < 8 then (((f_Fr_learn fr_known fv r1 v1).bind fun q24 => some (.inr (q24.1, q24.2)))) else (some (.inl (4, (fr_known, fv)))))
set_option maxRecDepth 100000 in
set_option maxHeartbeats 4000000 in
theorem c_Fu_register (l : Launch) (D : va_G) (K : Nat → ClassId) (a_t a_se a_la a_tr a_me a_fr a_fv a_ca a_rk : Nat) (t_lastValue : Int32) (fr_known : Int32) (fr_pc : Int32) (fr_unwound : Int32) (fv : Nat → Int32) (r1 : Int32) (v1 : Int32) (o : Int32 × (Nat → Int32)) (h : f_Fu_register fr_known fv r1 v1 = some (.inr o)) : Ct l y_Fu_register b_Fu_register 3 none { frames := 1, cells := 0, slots := 0, locals := 22 } D vwCl (xTy K) [.ref a_t, .int r1, .int v1] [(a_t, .inr (10, [.ref a_se, .ref a_la, .ref a_tr, .ref a_me, .ref a_fr, .ref a_ca, .ref a_rk, .int t_lastValue])), (a_fr, .inr (1, [.ref a_fv, .int fr_known, .int fr_pc, .int fr_unwound])), (a_fv, .inl (K 1, 8, .inl fv))] none [(a_t, .inr (10, [.ref a_se, .ref a_la, .ref a_tr, .ref a_me, .ref a_fr, .ref a_ca, .ref a_rk, .int t_lastValue])), (a_fr, .inr (1, [.ref a_fv, .int o.1, .int fr_pc, .int fr_unwound])), (a_fv, .inl (K 1, 8, .inl o.2))] := by
  refine Ct.ofG (by decide) (Nat.le_of_ble_eq_true rfl) ?_
  refine g_L (L' := [(0, .ref a_t), (1, .int r1), (2, .int v1)]) rfl ?_
  unfold f_Fu_register at h
  refine g_iload_n d_Fu_register_0 rfl ?_
  refine g_if_lt (tgt := 10) d_Fu_register_1 (by decide) (fun hc => ?_) (fun hc => ?_)
  · replace h := it_t hc h
    exact absurd h (by simp)
  · replace h := it_f hc h
    refine g_iload_n d_Fu_register_4 rfl ?_
    refine g_bipush (v := 8) d_Fu_register_5 (by decide) ?_
    refine g_icmp_lt (tgt := 18) d_Fu_register_7 (by decide) (fun hc => ?_) (fun hc => ?_)
    · replace h := it_t hc h
      refine g_aload_n d_Fu_register_18 rfl ?_
      refine gf_Fu_53 0 rfl (v := .ref a_fr) rfl d_Fu_register_19 ?_
      refine g_iload_n d_Fu_register_22 rfl ?_
      refine g_iload_n d_Fu_register_23 rfl ?_
      obtain ⟨q24, hq24, h⟩ := it_b h
      refine g_callV (ci := 1) (q := (xR_Fr, xF_Fr, 4)) (As := [.int r1, .int v1]) (rest := []) (st2 := []) (ws2 := [(a_t, .inr (10, [.ref a_se, .ref a_la, .ref a_tr, .ref a_me, .ref a_fr, .ref a_ca, .ref a_rk, .int t_lastValue])), (a_fr, .inr (1, [.ref a_fv, .int q24.1, .int fr_pc, .int fr_unwound])), (a_fv, .inl (K 1, 8, .inl q24.2))]) (c_Fr_learn l D K a_fr a_fv fr_known fr_pc fr_unwound fv r1 v1 q24 hq24) (cs_Fu_136 rfl rfl ⟨Nat.le_of_ble_eq_true rfl, Nat.le_of_ble_eq_true rfl⟩) rfl 1 rfl (gOver.mk2 [1, 2] [none, some 0, some 1] (by decide) (by decide) rfl rfl rfl) (Nat.le_of_ble_eq_true rfl) ⟨Nat.le_of_ble_eq_true rfl, Nat.le_of_ble_eq_true rfl⟩ d_Fu_register_24 rfl rfl ?_
      obtain rfl := gInr h
      exact g_vret rfl d_Fu_register_27
    · replace h := it_f hc h
      exact absurd h (by simp)
set_option maxRecDepth 100000 in
set_option maxHeartbeats 4000000 in
theorem x4_Fu_register (l : Launch) (hl : l.stackTraces = false) (D : va_G) (K : Nat → ClassId) (a_t a_se a_la a_tr a_me a_fr a_fv a_ca a_rk : Nat) (t_lastValue : Int32) (fr_known : Int32) (fr_pc : Int32) (fr_unwound : Int32) (fv : Nat → Int32) (r1 : Int32) (v1 : Int32) (o : Int32 × (Nat → Int32)) (h : f_Fu_register fr_known fv r1 v1 = some (.inl (4, o))) : CtT l y_Fu_register b_Fu_register 3 none { frames := 6, cells := 1, slots := 6, locals := 81 } D vwCl (xTy K) [.ref a_t, .int r1, .int v1] [(a_t, .inr (10, [.ref a_se, .ref a_la, .ref a_tr, .ref a_me, .ref a_fr, .ref a_ca, .ref a_rk, .int t_lastValue])), (a_fr, .inr (1, [.ref a_fv, .int fr_known, .int fr_pc, .int fr_unwound])), (a_fv, .inl (K 1, 8, .inl fv))] "java/lang/IndexOutOfBoundsException" [(a_t, .inr (10, [.ref a_se, .ref a_la, .ref a_tr, .ref a_me, .ref a_fr, .ref a_ca, .ref a_rk, .int t_lastValue])), (a_fr, .inr (1, [.ref a_fv, .int o.1, .int fr_pc, .int fr_unwound])), (a_fv, .inl (K 1, 8, .inl o.2))] := by
  refine CtT.ofG (by decide) (Nat.le_of_ble_eq_true rfl) ?_
  refine g_L (L' := [(0, .ref a_t), (1, .int r1), (2, .int v1)]) rfl ?_
  unfold f_Fu_register at h
  refine g_iload_n d_Fu_register_0 rfl ?_
  refine g_if_lt (tgt := 10) d_Fu_register_1 (by decide) (fun hc => ?_) (fun hc => ?_)
  · replace h := it_t hc h
    obtain rfl := gInl h
    exact g_throw hl tb_671 th_Fu_86 (by decide) (by decide) (by decide) (by decide) d_Fu_register_10 d_Fu_register_13 d_Fu_register_14 d_Fu_register_17
  · replace h := it_f hc h
    refine g_iload_n d_Fu_register_4 rfl ?_
    refine g_bipush (v := 8) d_Fu_register_5 (by decide) ?_
    refine g_icmp_lt (tgt := 18) d_Fu_register_7 (by decide) (fun hc => ?_) (fun hc => ?_)
    · replace h := it_t hc h
      refine g_aload_n d_Fu_register_18 rfl ?_
      refine gf_Fu_53 0 rfl (v := .ref a_fr) rfl d_Fu_register_19 ?_
      refine g_iload_n d_Fu_register_22 rfl ?_
      refine g_iload_n d_Fu_register_23 rfl ?_
      obtain ⟨q24, hq24, h⟩ := it_b h
      refine g_callV (ci := 1) (q := (xR_Fr, xF_Fr, 4)) (As := [.int r1, .int v1]) (rest := []) (st2 := []) (ws2 := [(a_t, .inr (10, [.ref a_se, .ref a_la, .ref a_tr, .ref a_me, .ref a_fr, .ref a_ca, .ref a_rk, .int t_lastValue])), (a_fr, .inr (1, [.ref a_fv, .int q24.1, .int fr_pc, .int fr_unwound])), (a_fv, .inl (K 1, 8, .inl q24.2))]) (c_Fr_learn l D K a_fr a_fv fr_known fr_pc fr_unwound fv r1 v1 q24 hq24) (cs_Fu_136 rfl rfl ⟨Nat.le_of_ble_eq_true rfl, Nat.le_of_ble_eq_true rfl⟩) rfl 1 rfl (gOver.mk2 [1, 2] [none, some 0, some 1] (by decide) (by decide) rfl rfl rfl) (Nat.le_of_ble_eq_true rfl) ⟨Nat.le_of_ble_eq_true rfl, Nat.le_of_ble_eq_true rfl⟩ d_Fu_register_24 rfl rfl ?_
      exact absurd h (by simp)
    · replace h := it_f hc h
      obtain rfl := gInl h
      exact g_throw hl tb_671 th_Fu_86 (by decide) (by decide) (by decide) (by decide) d_Fu_register_10 d_Fu_register_13 d_Fu_register_14 d_Fu_register_17
def f_Fu_get (fr_known : Int32) (fr_pc : Int32) (fr_unwound : Int32) (fv : Nat → Int32) (r1 : Int32) : Option ((Nat × Unit) ⊕ (Int32)) := if r1 < 0 then (some (.inl (4, ()))) else (if r1 ≤ 10 then (if r1 = 8 then (some (.inr fr_pc)) else if r1 = 9 then (some (.inr fr_known)) else if r1 = 10 then (some (.inr fr_unwound)) else if r1 < 0 ∨ 8 ≤ r1.toNatClampNeg then none else some (.inr (fv r1.toNatClampNeg))) else (some (.inl (4, ()))))
set_option maxRecDepth 100000 in
set_option maxHeartbeats 4000000 in
theorem c_Fu_get (l : Launch) (D : va_G) (K : Nat → ClassId) (a_t a_se a_la a_tr a_me a_fr a_fv a_ca a_rk : Nat) (t_lastValue : Int32) (fr_known : Int32) (fr_pc : Int32) (fr_unwound : Int32) (fv : Nat → Int32) (r1 : Int32) (o : Int32) (h : f_Fu_get fr_known fr_pc fr_unwound fv r1 = some (.inr o)) : Ct l y_Fu_get b_Fu_get 2 (some .int) { frames := 0, cells := 0, slots := 0, locals := 0 } D vwCl (xTy K) [.ref a_t, .int r1] [(a_t, .inr (10, [.ref a_se, .ref a_la, .ref a_tr, .ref a_me, .ref a_fr, .ref a_ca, .ref a_rk, .int t_lastValue])), (a_fr, .inr (1, [.ref a_fv, .int fr_known, .int fr_pc, .int fr_unwound])), (a_fv, .inl (K 1, 8, .inl fv))] (some (.int o)) [(a_t, .inr (10, [.ref a_se, .ref a_la, .ref a_tr, .ref a_me, .ref a_fr, .ref a_ca, .ref a_rk, .int t_lastValue])), (a_fr, .inr (1, [.ref a_fv, .int fr_known, .int fr_pc, .int fr_unwound])), (a_fv, .inl (K 1, 8, .inl fv))] := by
  refine Ct.ofG (by decide) (Nat.le_of_ble_eq_true rfl) ?_
  refine g_L (L' := [(0, .ref a_t), (1, .int r1)]) rfl ?_
  unfold f_Fu_get at h
  refine g_iload_n d_Fu_get_0 rfl ?_
  refine g_if_lt (tgt := 10) d_Fu_get_1 (by decide) (fun hc => ?_) (fun hc => ?_)
  · replace h := it_t hc h
    exact absurd h (by simp)
  · replace h := it_f hc h
    refine g_iload_n d_Fu_get_4 rfl ?_
    refine g_bipush (v := 10) d_Fu_get_5 (by decide) ?_
    refine g_icmp_le (tgt := 18) d_Fu_get_7 (by decide) (fun hc => ?_) (fun hc => ?_)
    · replace h := it_t hc h
      refine g_iload_n d_Fu_get_18 rfl ?_
      by_cases hc19_44 : r1 = 8
      · replace h := it_t hc19_44 h
        refine g_table (off := 25) (tgt := 44) d_Fu_get_19 (by decide) (by rw [hc19_44]; decide +kernel) (by decide) ?_
        refine g_aload_n d_Fu_get_44 rfl ?_
        refine gf_Fu_53 0 rfl (v := .ref a_fr) rfl d_Fu_get_45 ?_
        refine gf_Fu_139 1 rfl (v := .int fr_pc) rfl d_Fu_get_48 ?_
        obtain rfl := gInr h
        exact g_iret rfl d_Fu_get_51
      replace h := it_f hc19_44 h
      by_cases hc19_52 : r1 = 9
      · replace h := it_t hc19_52 h
        refine g_table (off := 33) (tgt := 52) d_Fu_get_19 (by decide) (by rw [hc19_52]; decide +kernel) (by decide) ?_
        refine g_aload_n d_Fu_get_52 rfl ?_
        refine gf_Fu_53 0 rfl (v := .ref a_fr) rfl d_Fu_get_53 ?_
        refine gf_Fu_179 1 rfl (v := .int fr_known) rfl d_Fu_get_56 ?_
        obtain rfl := gInr h
        exact g_iret rfl d_Fu_get_59
      replace h := it_f hc19_52 h
      by_cases hc19_60 : r1 = 10
      · replace h := it_t hc19_60 h
        refine g_table (off := 41) (tgt := 60) d_Fu_get_19 (by decide) (by rw [hc19_60]; decide +kernel) (by decide) ?_
        refine g_aload_n d_Fu_get_60 rfl ?_
        refine gf_Fu_53 0 rfl (v := .ref a_fr) rfl d_Fu_get_61 ?_
        refine gf_Fu_142 1 rfl (v := .int fr_unwound) rfl d_Fu_get_64 ?_
        obtain rfl := gInr h
        exact g_iret rfl d_Fu_get_67
      replace h := it_f hc19_60 h
      refine g_table (off := 49) (tgt := 68) d_Fu_get_19 (by decide) (by simp only [gTabL]; rw [lv_osw hc19_44 (by decide), lv_osw hc19_52 (by decide), lv_osw hc19_60 (by decide)]; rfl) (by decide) ?_
      refine g_aload_n d_Fu_get_68 rfl ?_
      refine gf_Fu_53 0 rfl (v := .ref a_fr) rfl d_Fu_get_69 ?_
      refine gf_Fu_182 1 rfl (v := .ref a_fv) rfl d_Fu_get_72 ?_
      refine g_iload_n d_Fu_get_75 rfl ?_
      obtain ⟨hi76, h⟩ := it_in h
      refine g_iald 2 1 d_Fu_get_76 rfl rfl hi76 ?_
      obtain rfl := gInr h
      exact g_iret rfl d_Fu_get_77
    · replace h := it_f hc h
      exact absurd h (by simp)
set_option maxRecDepth 100000 in
set_option maxHeartbeats 4000000 in
theorem x4_Fu_get (l : Launch) (hl : l.stackTraces = false) (D : va_G) (K : Nat → ClassId) (a_t a_se a_la a_tr a_me a_fr a_fv a_ca a_rk : Nat) (t_lastValue : Int32) (fr_known : Int32) (fr_pc : Int32) (fr_unwound : Int32) (fv : Nat → Int32) (r1 : Int32) (o : Unit) (h : f_Fu_get fr_known fr_pc fr_unwound fv r1 = some (.inl (4, o))) : CtT l y_Fu_get b_Fu_get 2 (some .int) { frames := 6, cells := 1, slots := 6, locals := 81 } D vwCl (xTy K) [.ref a_t, .int r1] [(a_t, .inr (10, [.ref a_se, .ref a_la, .ref a_tr, .ref a_me, .ref a_fr, .ref a_ca, .ref a_rk, .int t_lastValue])), (a_fr, .inr (1, [.ref a_fv, .int fr_known, .int fr_pc, .int fr_unwound])), (a_fv, .inl (K 1, 8, .inl fv))] "java/lang/IndexOutOfBoundsException" [(a_t, .inr (10, [.ref a_se, .ref a_la, .ref a_tr, .ref a_me, .ref a_fr, .ref a_ca, .ref a_rk, .int t_lastValue])), (a_fr, .inr (1, [.ref a_fv, .int fr_known, .int fr_pc, .int fr_unwound])), (a_fv, .inl (K 1, 8, .inl fv))] := by
  refine CtT.ofG (by decide) (Nat.le_of_ble_eq_true rfl) ?_
  refine g_L (L' := [(0, .ref a_t), (1, .int r1)]) rfl ?_
  unfold f_Fu_get at h
  refine g_iload_n d_Fu_get_0 rfl ?_
  refine g_if_lt (tgt := 10) d_Fu_get_1 (by decide) (fun hc => ?_) (fun hc => ?_)
  · replace h := it_t hc h
    obtain rfl := gInl h
    exact g_throw hl tb_830 th_Fu_86 (by decide) (by decide) (by decide) (by decide) d_Fu_get_10 d_Fu_get_13 d_Fu_get_14 d_Fu_get_17
  · replace h := it_f hc h
    refine g_iload_n d_Fu_get_4 rfl ?_
    refine g_bipush (v := 10) d_Fu_get_5 (by decide) ?_
    refine g_icmp_le (tgt := 18) d_Fu_get_7 (by decide) (fun hc => ?_) (fun hc => ?_)
    · replace h := it_t hc h
      refine g_iload_n d_Fu_get_18 rfl ?_
      by_cases hc19_44 : r1 = 8
      · replace h := it_t hc19_44 h
        refine g_table (off := 25) (tgt := 44) d_Fu_get_19 (by decide) (by rw [hc19_44]; decide +kernel) (by decide) ?_
        refine g_aload_n d_Fu_get_44 rfl ?_
        refine gf_Fu_53 0 rfl (v := .ref a_fr) rfl d_Fu_get_45 ?_
        refine gf_Fu_139 1 rfl (v := .int fr_pc) rfl d_Fu_get_48 ?_
        exact absurd h (by simp)
      replace h := it_f hc19_44 h
      by_cases hc19_52 : r1 = 9
      · replace h := it_t hc19_52 h
        refine g_table (off := 33) (tgt := 52) d_Fu_get_19 (by decide) (by rw [hc19_52]; decide +kernel) (by decide) ?_
        refine g_aload_n d_Fu_get_52 rfl ?_
        refine gf_Fu_53 0 rfl (v := .ref a_fr) rfl d_Fu_get_53 ?_
        refine gf_Fu_179 1 rfl (v := .int fr_known) rfl d_Fu_get_56 ?_
        exact absurd h (by simp)
      replace h := it_f hc19_52 h
      by_cases hc19_60 : r1 = 10
      · replace h := it_t hc19_60 h
        refine g_table (off := 41) (tgt := 60) d_Fu_get_19 (by decide) (by rw [hc19_60]; decide +kernel) (by decide) ?_
        refine g_aload_n d_Fu_get_60 rfl ?_
        refine gf_Fu_53 0 rfl (v := .ref a_fr) rfl d_Fu_get_61 ?_
        refine gf_Fu_142 1 rfl (v := .int fr_unwound) rfl d_Fu_get_64 ?_
        exact absurd h (by simp)
      replace h := it_f hc19_60 h
      refine g_table (off := 49) (tgt := 68) d_Fu_get_19 (by decide) (by simp only [gTabL]; rw [lv_osw hc19_44 (by decide), lv_osw hc19_52 (by decide), lv_osw hc19_60 (by decide)]; rfl) (by decide) ?_
      refine g_aload_n d_Fu_get_68 rfl ?_
      refine gf_Fu_53 0 rfl (v := .ref a_fr) rfl d_Fu_get_69 ?_
      refine gf_Fu_182 1 rfl (v := .ref a_fv) rfl d_Fu_get_72 ?_
      refine g_iload_n d_Fu_get_75 rfl ?_
      obtain ⟨hi76, h⟩ := it_in h
      refine g_iald 2 1 d_Fu_get_76 rfl rfl hi76 ?_
      exact absurd h (by simp)
    · replace h := it_f hc h
      obtain rfl := gInl h
      exact g_throw hl tb_830 th_Fu_86 (by decide) (by decide) (by decide) (by decide) d_Fu_get_10 d_Fu_get_13 d_Fu_get_14 d_Fu_get_17
def f_Fu_reckon (t_lastValue : Int32) (se_size : Int32) (bb : Nat → Int32) (rd_at : Int32) (rd_limit : Int32) (rd_broken : Int32) (mw : Nat → Int32) (fr_known : Int32) (fv : Nat → Int32) (rk_height : Int32) (rk_hasCfa : Int32) (rk_cfa : Int32) (rk_begins : Int32) (sk : Nat → Int32) (b1 : Int32) (e1 : Int32) (u1 : Int32) : Option ((Nat × Int32 × Int32 × Int32 × Int32 × Int32 × Int32 × Int32 × (Nat → Int32)) ⊕ (Int32 × Int32 × Int32 × Int32 × Int32 × Int32 × Int32 × Int32 × (Nat → Int32))) := if b1 < 0 then (some (.inl (3, (t_lastValue, rd_at, rd_limit, rd_broken, rk_height, rk_hasCfa, rk_begins, sk)))) else (if e1 < b1 then (some (.inl (3, (t_lastValue, rd_at, rd_limit, rd_broken, rk_height, rk_hasCfa, rk_begins, sk)))) else (if se_size < e1 then (some (.inl (3, (t_lastValue, rd_at, rd_limit, rd_broken, rk_height, rk_hasCfa, rk_begins, sk)))) else (((f_Fu_isFuel u1).bind fun q21 => if q21 = 0 then (some (.inl (3, (t_lastValue, rd_at, rd_limit, rd_broken, rk_height, rk_hasCfa, rk_begins, sk)))) else (((f_Rk_clear rk_height rk_hasCfa).bind fun q39 => ((f_Rk_run q39.1 q39.2 rk_cfa rk_begins rd_at rd_limit rd_broken bb mw fr_known fv sk b1 e1 u1).bind fun q49 => if q49.1 = 0 then (((f_Rk_top q49.2.1 q49.2.2.2.2.2.2).bind fun q64 => some (.inr (q49.1, q64, q49.2.2.2.1, q49.2.2.2.2.1, q49.2.2.2.2.2.1, q49.2.1, q39.2, q49.2.2.1, q49.2.2.2.2.2.2)))) else (some (.inr (q49.1, 0, q49.2.2.2.1, q49.2.2.2.2.1, q49.2.2.2.2.2.1, q49.2.1, q39.2, q49.2.2.1, q49.2.2.2.2.2.2))))))))))
set_option maxRecDepth 100000 in
set_option maxHeartbeats 4000000 in
theorem c_Fu_reckon (l : Launch) (D : va_G) (K : Nat → ClassId) (a_t a_se a_bb a_rd a_la a_tr a_me a_mw a_fr a_fv a_ca a_rk a_sk : Nat) (t_lastValue : Int32) (se_size : Int32) (bb : Nat → Int32) (rd_at : Int32) (rd_limit : Int32) (rd_broken : Int32) (mw : Nat → Int32) (fr_known : Int32) (fr_pc : Int32) (fr_unwound : Int32) (fv : Nat → Int32) (rk_height : Int32) (rk_hasCfa : Int32) (rk_cfa : Int32) (rk_begins : Int32) (sk : Nat → Int32) (b1 : Int32) (e1 : Int32) (u1 : Int32) (o : Int32 × Int32 × Int32 × Int32 × Int32 × Int32 × Int32 × Int32 × (Nat → Int32)) (h : f_Fu_reckon t_lastValue se_size bb rd_at rd_limit rd_broken mw fr_known fv rk_height rk_hasCfa rk_cfa rk_begins sk b1 e1 u1 = some (.inr o)) : Ct l y_Fu_reckon b_Fu_reckon 5 (some .int) { frames := 5, cells := 0, slots := 0, locals := 116 } D vwCl (xTy K) [.ref a_t, .int b1, .int e1, .int u1] [(a_t, .inr (10, [.ref a_se, .ref a_la, .ref a_tr, .ref a_me, .ref a_fr, .ref a_ca, .ref a_rk, .int t_lastValue])), (a_se, .inr (8, [.ref a_bb, .int se_size])), (a_bb, .inl (K 0, 512, .inl bb)), (a_rd, .inr (5, [.ref a_bb, .int rd_at, .int rd_limit, .int rd_broken])), (a_me, .inr (4, [.ref a_mw])), (a_mw, .inl (K 1, 256, .inl mw)), (a_fr, .inr (1, [.ref a_fv, .int fr_known, .int fr_pc, .int fr_unwound])), (a_fv, .inl (K 1, 8, .inl fv)), (a_rk, .inr (6, [.ref a_rd, .ref a_me, .ref a_fr, .ref a_sk, .int rk_height, .int rk_hasCfa, .int rk_cfa, .int rk_begins])), (a_sk, .inl (K 1, 16, .inl sk))] (some (.int o.1)) [(a_t, .inr (10, [.ref a_se, .ref a_la, .ref a_tr, .ref a_me, .ref a_fr, .ref a_ca, .ref a_rk, .int o.2.1])), (a_se, .inr (8, [.ref a_bb, .int se_size])), (a_bb, .inl (K 0, 512, .inl bb)), (a_rd, .inr (5, [.ref a_bb, .int o.2.2.1, .int o.2.2.2.1, .int o.2.2.2.2.1])), (a_me, .inr (4, [.ref a_mw])), (a_mw, .inl (K 1, 256, .inl mw)), (a_fr, .inr (1, [.ref a_fv, .int fr_known, .int fr_pc, .int fr_unwound])), (a_fv, .inl (K 1, 8, .inl fv)), (a_rk, .inr (6, [.ref a_rd, .ref a_me, .ref a_fr, .ref a_sk, .int o.2.2.2.2.2.1, .int o.2.2.2.2.2.2.1, .int rk_cfa, .int o.2.2.2.2.2.2.2.1])), (a_sk, .inl (K 1, 16, .inl o.2.2.2.2.2.2.2.2))] := by
  refine Ct.ofG (by decide) (Nat.le_of_ble_eq_true rfl) ?_
  refine g_L (L' := [(0, .ref a_t), (1, .int b1), (2, .int e1), (3, .int u1)]) rfl ?_
  unfold f_Fu_reckon at h
  refine g_iload_n d_Fu_reckon_0 rfl ?_
  refine g_if_lt (tgt := 27) d_Fu_reckon_1 (by decide) (fun hc => ?_) (fun hc => ?_)
  · replace h := it_t hc h
    exact absurd h (by simp)
  · replace h := it_f hc h
    refine g_iload_n d_Fu_reckon_4 rfl ?_
    refine g_iload_n d_Fu_reckon_5 rfl ?_
    refine g_icmp_lt (tgt := 27) d_Fu_reckon_6 (by decide) (fun hc => ?_) (fun hc => ?_)
    · replace h := it_t hc h
      exact absurd h (by simp)
    · replace h := it_f hc h
      refine g_iload_n d_Fu_reckon_9 rfl ?_
      refine g_aload_n d_Fu_reckon_10 rfl ?_
      refine gf_Fu_10 0 rfl (v := .ref a_se) rfl d_Fu_reckon_11 ?_
      refine gf_Fu_73 1 rfl (v := .int se_size) rfl d_Fu_reckon_14 ?_
      refine g_icmp_gt (tgt := 27) d_Fu_reckon_17 (by decide) (fun hc => ?_) (fun hc => ?_)
      · replace h := it_t hc h
        exact absurd h (by simp)
      · replace h := it_f hc h
        refine g_iload_n d_Fu_reckon_20 rfl ?_
        obtain ⟨q21, hq21, h⟩ := it_b h
        refine g_callS (As := [.int u1]) (rest := []) (st2 := [.int q21]) (ws2 := [(a_t, .inr (10, [.ref a_se, .ref a_la, .ref a_tr, .ref a_me, .ref a_fr, .ref a_ca, .ref a_rk, .int t_lastValue])), (a_se, .inr (8, [.ref a_bb, .int se_size])), (a_bb, .inl (K 0, 512, .inl bb)), (a_rd, .inr (5, [.ref a_bb, .int rd_at, .int rd_limit, .int rd_broken])), (a_me, .inr (4, [.ref a_mw])), (a_mw, .inl (K 1, 256, .inl mw)), (a_fr, .inr (1, [.ref a_fv, .int fr_known, .int fr_pc, .int fr_unwound])), (a_fv, .inl (K 1, 8, .inl fv)), (a_rk, .inr (6, [.ref a_rd, .ref a_me, .ref a_fr, .ref a_sk, .int rk_height, .int rk_hasCfa, .int rk_cfa, .int rk_begins])), (a_sk, .inl (K 1, 16, .inl sk))]) (c_Fu_isFuel l D K u1 q21 hq21) (cs_Fu_145 rfl rfl ⟨Nat.le_of_ble_eq_true rfl, Nat.le_of_ble_eq_true rfl⟩) (gOver.rd [] (by decide) rfl) (Nat.le_of_ble_eq_true rfl) ⟨Nat.le_of_ble_eq_true rfl, Nat.le_of_ble_eq_true rfl⟩ d_Fu_reckon_21 rfl rfl ?_
        refine g_if_ne (tgt := 35) d_Fu_reckon_24 (by decide) (fun hc => ?_) (fun hc => ?_)
        · replace h := it_f hc h
          refine g_aload_n d_Fu_reckon_35 rfl ?_
          refine gf_Fu_65 0 rfl (v := .ref a_rk) rfl d_Fu_reckon_36 ?_
          obtain ⟨q39, hq39, h⟩ := it_b h
          refine g_callV (ci := 6) (q := (xR_Rk, xF_Rk, 8)) (As := []) (rest := []) (st2 := []) (ws2 := [(a_t, .inr (10, [.ref a_se, .ref a_la, .ref a_tr, .ref a_me, .ref a_fr, .ref a_ca, .ref a_rk, .int t_lastValue])), (a_se, .inr (8, [.ref a_bb, .int se_size])), (a_bb, .inl (K 0, 512, .inl bb)), (a_rd, .inr (5, [.ref a_bb, .int rd_at, .int rd_limit, .int rd_broken])), (a_me, .inr (4, [.ref a_mw])), (a_mw, .inl (K 1, 256, .inl mw)), (a_fr, .inr (1, [.ref a_fv, .int fr_known, .int fr_pc, .int fr_unwound])), (a_fv, .inl (K 1, 8, .inl fv)), (a_rk, .inr (6, [.ref a_rd, .ref a_me, .ref a_fr, .ref a_sk, .int q39.1, .int q39.2, .int rk_cfa, .int rk_begins])), (a_sk, .inl (K 1, 16, .inl sk))]) (c_Rk_clear l D K a_rk a_rd a_me a_fr a_sk rk_height rk_hasCfa rk_cfa rk_begins q39 hq39) (cs_Fu_148 rfl rfl ⟨Nat.le_of_ble_eq_true rfl, Nat.le_of_ble_eq_true rfl⟩) rfl 8 rfl (gOver.mk2 [8] [none, none, none, none, none, none, none, none, some 0, none] (by decide) (by decide) rfl rfl rfl) (Nat.le_of_ble_eq_true rfl) ⟨Nat.le_of_ble_eq_true rfl, Nat.le_of_ble_eq_true rfl⟩ d_Fu_reckon_39 rfl rfl ?_
          refine g_aload_n d_Fu_reckon_42 rfl ?_
          refine gf_Fu_65 0 rfl (v := .ref a_rk) rfl d_Fu_reckon_43 ?_
          refine g_iload_n d_Fu_reckon_46 rfl ?_
          refine g_iload_n d_Fu_reckon_47 rfl ?_
          refine g_iload_n d_Fu_reckon_48 rfl ?_
          obtain ⟨q49, hq49, h⟩ := it_b h
          refine g_callV (ci := 6) (q := (xR_Rk, xF_Rk, 8)) (As := [.int b1, .int e1, .int u1]) (rest := []) (st2 := [.int q49.1]) (ws2 := [(a_t, .inr (10, [.ref a_se, .ref a_la, .ref a_tr, .ref a_me, .ref a_fr, .ref a_ca, .ref a_rk, .int t_lastValue])), (a_se, .inr (8, [.ref a_bb, .int se_size])), (a_bb, .inl (K 0, 512, .inl bb)), (a_rd, .inr (5, [.ref a_bb, .int q49.2.2.2.1, .int q49.2.2.2.2.1, .int q49.2.2.2.2.2.1])), (a_me, .inr (4, [.ref a_mw])), (a_mw, .inl (K 1, 256, .inl mw)), (a_fr, .inr (1, [.ref a_fv, .int fr_known, .int fr_pc, .int fr_unwound])), (a_fv, .inl (K 1, 8, .inl fv)), (a_rk, .inr (6, [.ref a_rd, .ref a_me, .ref a_fr, .ref a_sk, .int q49.2.1, .int q39.2, .int rk_cfa, .int q49.2.2.1])), (a_sk, .inl (K 1, 16, .inl q49.2.2.2.2.2.2))]) (c_Rk_run l D K a_rk a_rd a_bb a_me a_mw a_fr a_fv a_sk q39.1 q39.2 rk_cfa rk_begins rd_at rd_limit rd_broken bb mw fr_known fr_pc fr_unwound fv sk b1 e1 u1 q49 hq49) (cs_Fu_151 rfl rfl ⟨Nat.le_of_ble_eq_true rfl, Nat.le_of_ble_eq_true rfl⟩) rfl 8 rfl (gOver.mk2 [8, 3, 2, 4, 5, 6, 7, 9] [none, none, some 2, some 1, some 3, some 4, some 5, some 6, some 0, some 7] (by decide) (by decide) rfl rfl rfl) (Nat.le_of_ble_eq_true rfl) ⟨Nat.le_of_ble_eq_true rfl, Nat.le_of_ble_eq_true rfl⟩ d_Fu_reckon_49 rfl rfl ?_
          refine g_istore (L' := [(4, .int q49.1), (0, .ref a_t), (1, .int b1), (2, .int e1), (3, .int u1)]) d_Fu_reckon_52 (by decide) rfl ?_
          refine g_aload_n d_Fu_reckon_54 rfl ?_
          refine g_iload d_Fu_reckon_55 rfl ?_
          refine g_if_ne (tgt := 70) d_Fu_reckon_57 (by decide) (fun hc => ?_) (fun hc => ?_)
          · replace h := it_f hc h
            refine g_iconst (v := 0) d_Fu_reckon_70 (by decide) ?_
            refine pf_Fu_69 0 rfl (v := .int 0) rfl rfl (Nat.le_of_ble_eq_true rfl) (ws' := [(a_t, .inr (10, [.ref a_se, .ref a_la, .ref a_tr, .ref a_me, .ref a_fr, .ref a_ca, .ref a_rk, .int 0])), (a_se, .inr (8, [.ref a_bb, .int se_size])), (a_bb, .inl (K 0, 512, .inl bb)), (a_rd, .inr (5, [.ref a_bb, .int q49.2.2.2.1, .int q49.2.2.2.2.1, .int q49.2.2.2.2.2.1])), (a_me, .inr (4, [.ref a_mw])), (a_mw, .inl (K 1, 256, .inl mw)), (a_fr, .inr (1, [.ref a_fv, .int fr_known, .int fr_pc, .int fr_unwound])), (a_fv, .inl (K 1, 8, .inl fv)), (a_rk, .inr (6, [.ref a_rd, .ref a_me, .ref a_fr, .ref a_sk, .int q49.2.1, .int q39.2, .int rk_cfa, .int q49.2.2.1])), (a_sk, .inl (K 1, 16, .inl q49.2.2.2.2.2.2))]) rfl d_Fu_reckon_71 ?_
            refine g_iload d_Fu_reckon_74 rfl ?_
            obtain rfl := gInr h
            exact g_iret rfl d_Fu_reckon_76
          · replace h := it_t hc h
            refine g_aload_n d_Fu_reckon_60 rfl ?_
            refine gf_Fu_65 0 rfl (v := .ref a_rk) rfl d_Fu_reckon_61 ?_
            obtain ⟨q64, hq64, h⟩ := it_b h
            refine g_callV (ci := 6) (q := (xR_Rk, xF_Rk, 8)) (As := []) (rest := [.ref a_t]) (st2 := [.int q64, .ref a_t]) (ws2 := [(a_t, .inr (10, [.ref a_se, .ref a_la, .ref a_tr, .ref a_me, .ref a_fr, .ref a_ca, .ref a_rk, .int t_lastValue])), (a_se, .inr (8, [.ref a_bb, .int se_size])), (a_bb, .inl (K 0, 512, .inl bb)), (a_rd, .inr (5, [.ref a_bb, .int q49.2.2.2.1, .int q49.2.2.2.2.1, .int q49.2.2.2.2.2.1])), (a_me, .inr (4, [.ref a_mw])), (a_mw, .inl (K 1, 256, .inl mw)), (a_fr, .inr (1, [.ref a_fv, .int fr_known, .int fr_pc, .int fr_unwound])), (a_fv, .inl (K 1, 8, .inl fv)), (a_rk, .inr (6, [.ref a_rd, .ref a_me, .ref a_fr, .ref a_sk, .int q49.2.1, .int q39.2, .int rk_cfa, .int q49.2.2.1])), (a_sk, .inl (K 1, 16, .inl q49.2.2.2.2.2.2))]) (c_Rk_top l D K a_rk a_rd a_me a_fr a_sk q49.2.1 q39.2 rk_cfa q49.2.2.1 q49.2.2.2.2.2.2 q64 hq64) (cs_Fu_155 rfl rfl ⟨Nat.le_of_ble_eq_true rfl, Nat.le_of_ble_eq_true rfl⟩) rfl 8 rfl (gOver.rd [8, 9] (by decide) rfl) (Nat.le_of_ble_eq_true rfl) ⟨Nat.le_of_ble_eq_true rfl, Nat.le_of_ble_eq_true rfl⟩ d_Fu_reckon_64 rfl rfl ?_
            refine g_goto (tgt := 71) d_Fu_reckon_67 (by decide) ?_
            refine pf_Fu_69 0 rfl (v := .int q64) rfl rfl (Nat.le_of_ble_eq_true rfl) (ws' := [(a_t, .inr (10, [.ref a_se, .ref a_la, .ref a_tr, .ref a_me, .ref a_fr, .ref a_ca, .ref a_rk, .int q64])), (a_se, .inr (8, [.ref a_bb, .int se_size])), (a_bb, .inl (K 0, 512, .inl bb)), (a_rd, .inr (5, [.ref a_bb, .int q49.2.2.2.1, .int q49.2.2.2.2.1, .int q49.2.2.2.2.2.1])), (a_me, .inr (4, [.ref a_mw])), (a_mw, .inl (K 1, 256, .inl mw)), (a_fr, .inr (1, [.ref a_fv, .int fr_known, .int fr_pc, .int fr_unwound])), (a_fv, .inl (K 1, 8, .inl fv)), (a_rk, .inr (6, [.ref a_rd, .ref a_me, .ref a_fr, .ref a_sk, .int q49.2.1, .int q39.2, .int rk_cfa, .int q49.2.2.1])), (a_sk, .inl (K 1, 16, .inl q49.2.2.2.2.2.2))]) rfl d_Fu_reckon_71 ?_
            refine g_iload d_Fu_reckon_74 rfl ?_
            obtain rfl := gInr h
            exact g_iret rfl d_Fu_reckon_76
        · replace h := it_t hc h
          exact absurd h (by simp)
set_option maxRecDepth 100000 in
set_option maxHeartbeats 4000000 in
theorem x3_Fu_reckon (l : Launch) (hl : l.stackTraces = false) (D : va_G) (K : Nat → ClassId) (a_t a_se a_bb a_rd a_la a_tr a_me a_mw a_fr a_fv a_ca a_rk a_sk : Nat) (t_lastValue : Int32) (se_size : Int32) (bb : Nat → Int32) (rd_at : Int32) (rd_limit : Int32) (rd_broken : Int32) (mw : Nat → Int32) (fr_known : Int32) (fr_pc : Int32) (fr_unwound : Int32) (fv : Nat → Int32) (rk_height : Int32) (rk_hasCfa : Int32) (rk_cfa : Int32) (rk_begins : Int32) (sk : Nat → Int32) (b1 : Int32) (e1 : Int32) (u1 : Int32) (o : Int32 × Int32 × Int32 × Int32 × Int32 × Int32 × Int32 × (Nat → Int32)) (h : f_Fu_reckon t_lastValue se_size bb rd_at rd_limit rd_broken mw fr_known fv rk_height rk_hasCfa rk_cfa rk_begins sk b1 e1 u1 = some (.inl (3, o))) : CtT l y_Fu_reckon b_Fu_reckon 5 (some .int) { frames := 6, cells := 1, slots := 6, locals := 116 } D vwCl (xTy K) [.ref a_t, .int b1, .int e1, .int u1] [(a_t, .inr (10, [.ref a_se, .ref a_la, .ref a_tr, .ref a_me, .ref a_fr, .ref a_ca, .ref a_rk, .int t_lastValue])), (a_se, .inr (8, [.ref a_bb, .int se_size])), (a_bb, .inl (K 0, 512, .inl bb)), (a_rd, .inr (5, [.ref a_bb, .int rd_at, .int rd_limit, .int rd_broken])), (a_me, .inr (4, [.ref a_mw])), (a_mw, .inl (K 1, 256, .inl mw)), (a_fr, .inr (1, [.ref a_fv, .int fr_known, .int fr_pc, .int fr_unwound])), (a_fv, .inl (K 1, 8, .inl fv)), (a_rk, .inr (6, [.ref a_rd, .ref a_me, .ref a_fr, .ref a_sk, .int rk_height, .int rk_hasCfa, .int rk_cfa, .int rk_begins])), (a_sk, .inl (K 1, 16, .inl sk))] "java/lang/IllegalArgumentException" [(a_t, .inr (10, [.ref a_se, .ref a_la, .ref a_tr, .ref a_me, .ref a_fr, .ref a_ca, .ref a_rk, .int o.1])), (a_se, .inr (8, [.ref a_bb, .int se_size])), (a_bb, .inl (K 0, 512, .inl bb)), (a_rd, .inr (5, [.ref a_bb, .int o.2.1, .int o.2.2.1, .int o.2.2.2.1])), (a_me, .inr (4, [.ref a_mw])), (a_mw, .inl (K 1, 256, .inl mw)), (a_fr, .inr (1, [.ref a_fv, .int fr_known, .int fr_pc, .int fr_unwound])), (a_fv, .inl (K 1, 8, .inl fv)), (a_rk, .inr (6, [.ref a_rd, .ref a_me, .ref a_fr, .ref a_sk, .int o.2.2.2.2.1, .int o.2.2.2.2.2.1, .int rk_cfa, .int o.2.2.2.2.2.2.1])), (a_sk, .inl (K 1, 16, .inl o.2.2.2.2.2.2.2))] := by
  refine CtT.ofG (by decide) (Nat.le_of_ble_eq_true rfl) ?_
  refine g_L (L' := [(0, .ref a_t), (1, .int b1), (2, .int e1), (3, .int u1)]) rfl ?_
  unfold f_Fu_reckon at h
  refine g_iload_n d_Fu_reckon_0 rfl ?_
  refine g_if_lt (tgt := 27) d_Fu_reckon_1 (by decide) (fun hc => ?_) (fun hc => ?_)
  · replace h := it_t hc h
    obtain rfl := gInl h
    exact g_throw hl tb_682 th_Fu_83 (by decide) (by decide) (by decide) (by decide) d_Fu_reckon_27 d_Fu_reckon_30 d_Fu_reckon_31 d_Fu_reckon_34
  · replace h := it_f hc h
    refine g_iload_n d_Fu_reckon_4 rfl ?_
    refine g_iload_n d_Fu_reckon_5 rfl ?_
    refine g_icmp_lt (tgt := 27) d_Fu_reckon_6 (by decide) (fun hc => ?_) (fun hc => ?_)
    · replace h := it_t hc h
      obtain rfl := gInl h
      exact g_throw hl tb_682 th_Fu_83 (by decide) (by decide) (by decide) (by decide) d_Fu_reckon_27 d_Fu_reckon_30 d_Fu_reckon_31 d_Fu_reckon_34
    · replace h := it_f hc h
      refine g_iload_n d_Fu_reckon_9 rfl ?_
      refine g_aload_n d_Fu_reckon_10 rfl ?_
      refine gf_Fu_10 0 rfl (v := .ref a_se) rfl d_Fu_reckon_11 ?_
      refine gf_Fu_73 1 rfl (v := .int se_size) rfl d_Fu_reckon_14 ?_
      refine g_icmp_gt (tgt := 27) d_Fu_reckon_17 (by decide) (fun hc => ?_) (fun hc => ?_)
      · replace h := it_t hc h
        obtain rfl := gInl h
        exact g_throw hl tb_682 th_Fu_83 (by decide) (by decide) (by decide) (by decide) d_Fu_reckon_27 d_Fu_reckon_30 d_Fu_reckon_31 d_Fu_reckon_34
      · replace h := it_f hc h
        refine g_iload_n d_Fu_reckon_20 rfl ?_
        obtain ⟨q21, hq21, h⟩ := it_b h
        refine g_callS (As := [.int u1]) (rest := []) (st2 := [.int q21]) (ws2 := [(a_t, .inr (10, [.ref a_se, .ref a_la, .ref a_tr, .ref a_me, .ref a_fr, .ref a_ca, .ref a_rk, .int t_lastValue])), (a_se, .inr (8, [.ref a_bb, .int se_size])), (a_bb, .inl (K 0, 512, .inl bb)), (a_rd, .inr (5, [.ref a_bb, .int rd_at, .int rd_limit, .int rd_broken])), (a_me, .inr (4, [.ref a_mw])), (a_mw, .inl (K 1, 256, .inl mw)), (a_fr, .inr (1, [.ref a_fv, .int fr_known, .int fr_pc, .int fr_unwound])), (a_fv, .inl (K 1, 8, .inl fv)), (a_rk, .inr (6, [.ref a_rd, .ref a_me, .ref a_fr, .ref a_sk, .int rk_height, .int rk_hasCfa, .int rk_cfa, .int rk_begins])), (a_sk, .inl (K 1, 16, .inl sk))]) (c_Fu_isFuel l D K u1 q21 hq21) (cs_Fu_145 rfl rfl ⟨Nat.le_of_ble_eq_true rfl, Nat.le_of_ble_eq_true rfl⟩) (gOver.rd [] (by decide) rfl) (Nat.le_of_ble_eq_true rfl) ⟨Nat.le_of_ble_eq_true rfl, Nat.le_of_ble_eq_true rfl⟩ d_Fu_reckon_21 rfl rfl ?_
        refine g_if_ne (tgt := 35) d_Fu_reckon_24 (by decide) (fun hc => ?_) (fun hc => ?_)
        · replace h := it_f hc h
          refine g_aload_n d_Fu_reckon_35 rfl ?_
          refine gf_Fu_65 0 rfl (v := .ref a_rk) rfl d_Fu_reckon_36 ?_
          obtain ⟨q39, hq39, h⟩ := it_b h
          refine g_callV (ci := 6) (q := (xR_Rk, xF_Rk, 8)) (As := []) (rest := []) (st2 := []) (ws2 := [(a_t, .inr (10, [.ref a_se, .ref a_la, .ref a_tr, .ref a_me, .ref a_fr, .ref a_ca, .ref a_rk, .int t_lastValue])), (a_se, .inr (8, [.ref a_bb, .int se_size])), (a_bb, .inl (K 0, 512, .inl bb)), (a_rd, .inr (5, [.ref a_bb, .int rd_at, .int rd_limit, .int rd_broken])), (a_me, .inr (4, [.ref a_mw])), (a_mw, .inl (K 1, 256, .inl mw)), (a_fr, .inr (1, [.ref a_fv, .int fr_known, .int fr_pc, .int fr_unwound])), (a_fv, .inl (K 1, 8, .inl fv)), (a_rk, .inr (6, [.ref a_rd, .ref a_me, .ref a_fr, .ref a_sk, .int q39.1, .int q39.2, .int rk_cfa, .int rk_begins])), (a_sk, .inl (K 1, 16, .inl sk))]) (c_Rk_clear l D K a_rk a_rd a_me a_fr a_sk rk_height rk_hasCfa rk_cfa rk_begins q39 hq39) (cs_Fu_148 rfl rfl ⟨Nat.le_of_ble_eq_true rfl, Nat.le_of_ble_eq_true rfl⟩) rfl 8 rfl (gOver.mk2 [8] [none, none, none, none, none, none, none, none, some 0, none] (by decide) (by decide) rfl rfl rfl) (Nat.le_of_ble_eq_true rfl) ⟨Nat.le_of_ble_eq_true rfl, Nat.le_of_ble_eq_true rfl⟩ d_Fu_reckon_39 rfl rfl ?_
          refine g_aload_n d_Fu_reckon_42 rfl ?_
          refine gf_Fu_65 0 rfl (v := .ref a_rk) rfl d_Fu_reckon_43 ?_
          refine g_iload_n d_Fu_reckon_46 rfl ?_
          refine g_iload_n d_Fu_reckon_47 rfl ?_
          refine g_iload_n d_Fu_reckon_48 rfl ?_
          obtain ⟨q49, hq49, h⟩ := it_b h
          refine g_callV (ci := 6) (q := (xR_Rk, xF_Rk, 8)) (As := [.int b1, .int e1, .int u1]) (rest := []) (st2 := [.int q49.1]) (ws2 := [(a_t, .inr (10, [.ref a_se, .ref a_la, .ref a_tr, .ref a_me, .ref a_fr, .ref a_ca, .ref a_rk, .int t_lastValue])), (a_se, .inr (8, [.ref a_bb, .int se_size])), (a_bb, .inl (K 0, 512, .inl bb)), (a_rd, .inr (5, [.ref a_bb, .int q49.2.2.2.1, .int q49.2.2.2.2.1, .int q49.2.2.2.2.2.1])), (a_me, .inr (4, [.ref a_mw])), (a_mw, .inl (K 1, 256, .inl mw)), (a_fr, .inr (1, [.ref a_fv, .int fr_known, .int fr_pc, .int fr_unwound])), (a_fv, .inl (K 1, 8, .inl fv)), (a_rk, .inr (6, [.ref a_rd, .ref a_me, .ref a_fr, .ref a_sk, .int q49.2.1, .int q39.2, .int rk_cfa, .int q49.2.2.1])), (a_sk, .inl (K 1, 16, .inl q49.2.2.2.2.2.2))]) (c_Rk_run l D K a_rk a_rd a_bb a_me a_mw a_fr a_fv a_sk q39.1 q39.2 rk_cfa rk_begins rd_at rd_limit rd_broken bb mw fr_known fr_pc fr_unwound fv sk b1 e1 u1 q49 hq49) (cs_Fu_151 rfl rfl ⟨Nat.le_of_ble_eq_true rfl, Nat.le_of_ble_eq_true rfl⟩) rfl 8 rfl (gOver.mk2 [8, 3, 2, 4, 5, 6, 7, 9] [none, none, some 2, some 1, some 3, some 4, some 5, some 6, some 0, some 7] (by decide) (by decide) rfl rfl rfl) (Nat.le_of_ble_eq_true rfl) ⟨Nat.le_of_ble_eq_true rfl, Nat.le_of_ble_eq_true rfl⟩ d_Fu_reckon_49 rfl rfl ?_
          refine g_istore (L' := [(4, .int q49.1), (0, .ref a_t), (1, .int b1), (2, .int e1), (3, .int u1)]) d_Fu_reckon_52 (by decide) rfl ?_
          refine g_aload_n d_Fu_reckon_54 rfl ?_
          refine g_iload d_Fu_reckon_55 rfl ?_
          refine g_if_ne (tgt := 70) d_Fu_reckon_57 (by decide) (fun hc => ?_) (fun hc => ?_)
          · replace h := it_f hc h
            refine g_iconst (v := 0) d_Fu_reckon_70 (by decide) ?_
            refine pf_Fu_69 0 rfl (v := .int 0) rfl rfl (Nat.le_of_ble_eq_true rfl) (ws' := [(a_t, .inr (10, [.ref a_se, .ref a_la, .ref a_tr, .ref a_me, .ref a_fr, .ref a_ca, .ref a_rk, .int 0])), (a_se, .inr (8, [.ref a_bb, .int se_size])), (a_bb, .inl (K 0, 512, .inl bb)), (a_rd, .inr (5, [.ref a_bb, .int q49.2.2.2.1, .int q49.2.2.2.2.1, .int q49.2.2.2.2.2.1])), (a_me, .inr (4, [.ref a_mw])), (a_mw, .inl (K 1, 256, .inl mw)), (a_fr, .inr (1, [.ref a_fv, .int fr_known, .int fr_pc, .int fr_unwound])), (a_fv, .inl (K 1, 8, .inl fv)), (a_rk, .inr (6, [.ref a_rd, .ref a_me, .ref a_fr, .ref a_sk, .int q49.2.1, .int q39.2, .int rk_cfa, .int q49.2.2.1])), (a_sk, .inl (K 1, 16, .inl q49.2.2.2.2.2.2))]) rfl d_Fu_reckon_71 ?_
            refine g_iload d_Fu_reckon_74 rfl ?_
            exact absurd h (by simp)
          · replace h := it_t hc h
            refine g_aload_n d_Fu_reckon_60 rfl ?_
            refine gf_Fu_65 0 rfl (v := .ref a_rk) rfl d_Fu_reckon_61 ?_
            obtain ⟨q64, hq64, h⟩ := it_b h
            refine g_callV (ci := 6) (q := (xR_Rk, xF_Rk, 8)) (As := []) (rest := [.ref a_t]) (st2 := [.int q64, .ref a_t]) (ws2 := [(a_t, .inr (10, [.ref a_se, .ref a_la, .ref a_tr, .ref a_me, .ref a_fr, .ref a_ca, .ref a_rk, .int t_lastValue])), (a_se, .inr (8, [.ref a_bb, .int se_size])), (a_bb, .inl (K 0, 512, .inl bb)), (a_rd, .inr (5, [.ref a_bb, .int q49.2.2.2.1, .int q49.2.2.2.2.1, .int q49.2.2.2.2.2.1])), (a_me, .inr (4, [.ref a_mw])), (a_mw, .inl (K 1, 256, .inl mw)), (a_fr, .inr (1, [.ref a_fv, .int fr_known, .int fr_pc, .int fr_unwound])), (a_fv, .inl (K 1, 8, .inl fv)), (a_rk, .inr (6, [.ref a_rd, .ref a_me, .ref a_fr, .ref a_sk, .int q49.2.1, .int q39.2, .int rk_cfa, .int q49.2.2.1])), (a_sk, .inl (K 1, 16, .inl q49.2.2.2.2.2.2))]) (c_Rk_top l D K a_rk a_rd a_me a_fr a_sk q49.2.1 q39.2 rk_cfa q49.2.2.1 q49.2.2.2.2.2.2 q64 hq64) (cs_Fu_155 rfl rfl ⟨Nat.le_of_ble_eq_true rfl, Nat.le_of_ble_eq_true rfl⟩) rfl 8 rfl (gOver.rd [8, 9] (by decide) rfl) (Nat.le_of_ble_eq_true rfl) ⟨Nat.le_of_ble_eq_true rfl, Nat.le_of_ble_eq_true rfl⟩ d_Fu_reckon_64 rfl rfl ?_
            refine g_goto (tgt := 71) d_Fu_reckon_67 (by decide) ?_
            refine pf_Fu_69 0 rfl (v := .int q64) rfl rfl (Nat.le_of_ble_eq_true rfl) (ws' := [(a_t, .inr (10, [.ref a_se, .ref a_la, .ref a_tr, .ref a_me, .ref a_fr, .ref a_ca, .ref a_rk, .int q64])), (a_se, .inr (8, [.ref a_bb, .int se_size])), (a_bb, .inl (K 0, 512, .inl bb)), (a_rd, .inr (5, [.ref a_bb, .int q49.2.2.2.1, .int q49.2.2.2.2.1, .int q49.2.2.2.2.2.1])), (a_me, .inr (4, [.ref a_mw])), (a_mw, .inl (K 1, 256, .inl mw)), (a_fr, .inr (1, [.ref a_fv, .int fr_known, .int fr_pc, .int fr_unwound])), (a_fv, .inl (K 1, 8, .inl fv)), (a_rk, .inr (6, [.ref a_rd, .ref a_me, .ref a_fr, .ref a_sk, .int q49.2.1, .int q39.2, .int rk_cfa, .int q49.2.2.1])), (a_sk, .inl (K 1, 16, .inl q49.2.2.2.2.2.2))]) rfl d_Fu_reckon_71 ?_
            refine g_iload d_Fu_reckon_74 rfl ?_
            exact absurd h (by simp)
        · replace h := it_t hc h
          obtain rfl := gInl h
          exact g_throw hl tb_682 th_Fu_83 (by decide) (by decide) (by decide) (by decide) d_Fu_reckon_27 d_Fu_reckon_30 d_Fu_reckon_31 d_Fu_reckon_34
