set_option maxRecDepth 100000 in
set_option maxHeartbeats 8000000 in
theorem c_En_init (l : Launch) (D : va_G) (K : Nat → ClassId) (a_t : Nat) : CtN l y_En_init b_En_init 1 { frames := 1, cells := 0, slots := 0, locals := 40 } D vwCl (xTy K) [.ref a_t] [(a_t, .inr (0, [.int 0, .int 0, .int 0, .int 0, .int 0, .int 0, .int 0, .int 0, .int 0, .int 0]))] (fun (i : Nat → Nat) => [(a_t, .inr (0, [.int 0, .int 0, .int 0, .int 0, .int 0, .int 0, .int 0, .int 0, .int 0, .int 0]))]) 0 0 := by
  refine CtN.ofG (by decide) (Nat.le_of_ble_eq_true rfl) ?_
  refine g_L (L' := [(0, .ref a_t)]) rfl ?_
  refine g_aload_n d_En_init_0 rfl ?_
  refine g_init (gIn_ts tb_113 rfl) (gIn_ts tb_29 rfl) (gIn_ts tb_30 rfl) (by decide) (Nat.le_of_ble_eq_true rfl) d_En_init_1 ?_
  exact g_vretN (fun k => ([] : List Nat).getD k 0) rfl (by decide) (by decide) rfl d_En_init_4
set_option maxRecDepth 100000 in
set_option maxHeartbeats 8000000 in
theorem c_In_init (l : Launch) (D : va_G) (K : Nat → ClassId) (a_t : Nat) : CtN l y_In_init b_In_init 1 { frames := 1, cells := 0, slots := 0, locals := 40 } D vwCl (xTy K) [.ref a_t] [(a_t, .inr (2, [.int 0, .int 0, .int 0, .int 0]))] (fun (i : Nat → Nat) => [(a_t, .inr (2, [.int 0, .int 0, .int 0, .int 0]))]) 0 0 := by
  refine CtN.ofG (by decide) (Nat.le_of_ble_eq_true rfl) ?_
  refine g_L (L' := [(0, .ref a_t)]) rfl ?_
  refine g_aload_n d_In_init_0 rfl ?_
  refine g_init (gIn_ts tb_88 rfl) (gIn_ts tb_29 rfl) (gIn_ts tb_30 rfl) (by decide) (Nat.le_of_ble_eq_true rfl) d_In_init_1 ?_
  exact g_vretN (fun k => ([] : List Nat).getD k 0) rfl (by decide) (by decide) rfl d_In_init_4
set_option maxRecDepth 100000 in
set_option maxHeartbeats 8000000 in
theorem c_Se_init (l : Launch) (D : va_G) (K : Nat → ClassId) (a_t : Nat) : CtN l y_Se_init b_Se_init 1 { frames := 1, cells := 1, slots := 512, locals := 40 } D vwCl (xTy K) [.ref a_t] [(a_t, .inr (8, [.null, .int 0]))] (fun (i : Nat → Nat) => [(a_t, .inr (8, [.ref (i 0), .int 0])), ((i 0), .inl (K 0, 512, .inl (fun _ => 0)))]) 1 512 := by
  refine CtN.ofG (by decide) (Nat.le_of_ble_eq_true rfl) ?_
  refine g_L (L' := [(0, .ref a_t)]) rfl ?_
  refine g_aload_n d_Se_init_0 rfl ?_
  refine g_init (gIn_ts tb_36 rfl) (gIn_ts tb_29 rfl) (gIn_ts tb_30 rfl) (by decide) (Nat.le_of_ble_eq_true rfl) d_Se_init_1 ?_
  refine g_aload_n d_Se_init_4 rfl ?_
  refine g_sipush (v := 512) d_Se_init_5 (by decide) ?_
  refine g_newa (atype := .byte) (ty := .byte) (a0 := (512, .inl (fun _ => 0))) (ws' := fun q8_0 => [(a_t, .inr (8, [.null, .int 0])), (q8_0, .inl (K 0, 512, .inl (fun _ => 0)))]) (gIn_ts tb_47 rfl) rfl 0 rfl (fun _ h => h) (fun _ => rfl) (by decide) (by decide) (by decide) (Nat.le_of_ble_eq_true rfl) (Nat.le_of_ble_eq_true rfl) (fun _ => rfl) d_Se_init_8 (fun q8_0 => ?_)
  refine g_putF (ci := 8) (C := xR_Se) (T := xF_Se) (N := 2) (index := 9) in_Se rfl xT_Se xt_Se xn_Se 0 (by decide) (gIn_ts tb_37 rfl) rfl rfl rfl (ty := .array .byte) (by decide +kernel) 0 rfl (v := .ref q8_0) rfl rfl (Nat.le_of_ble_eq_true rfl) (ws' := [(a_t, .inr (8, [.ref q8_0, .int 0])), (q8_0, .inl (K 0, 512, .inl (fun _ => 0)))]) rfl d_Se_init_10 ?_
  exact g_vretN (fun k => ([q8_0] : List Nat).getD k 0) rfl (by decide) (by decide) rfl d_Se_init_13
set_option maxRecDepth 100000 in
set_option maxHeartbeats 8000000 in
theorem c_Rd_init (l : Launch) (D : va_G) (K : Nat → ClassId) (a_t a_bb : Nat) : CtN l y_Rd_init b_Rd_init 2 { frames := 1, cells := 0, slots := 0, locals := 40 } D vwCl (xTy K) [.ref a_t, .ref a_bb] [(a_t, .inr (5, [.null, .int 0, .int 0, .int 0]))] (fun (i : Nat → Nat) => [(a_t, .inr (5, [.ref a_bb, .int 0, .int 0, .int 0]))]) 0 0 := by
  refine CtN.ofG (by decide) (Nat.le_of_ble_eq_true rfl) ?_
  refine g_L (L' := [(0, .ref a_t), (1, .ref a_bb)]) rfl ?_
  refine g_aload_n d_Rd_init_0 rfl ?_
  refine g_init (gIn_ts tb_53 rfl) (gIn_ts tb_29 rfl) (gIn_ts tb_30 rfl) (by decide) (Nat.le_of_ble_eq_true rfl) d_Rd_init_1 ?_
  refine g_aload_n d_Rd_init_4 rfl ?_
  refine g_aload_n d_Rd_init_5 rfl ?_
  refine g_putF (ci := 5) (C := xR_Rd) (T := xF_Rd) (N := 4) (index := 7) in_Rd rfl xT_Rd xt_Rd xn_Rd 0 (by decide) (gIn_ts tb_54 rfl) rfl rfl rfl (ty := .array .byte) (by decide +kernel) 0 rfl (v := .ref a_bb) rfl rfl (Nat.le_of_ble_eq_true rfl) (ws' := [(a_t, .inr (5, [.ref a_bb, .int 0, .int 0, .int 0]))]) rfl d_Rd_init_6 ?_
  exact g_vretN (fun k => ([] : List Nat).getD k 0) rfl (by decide) (by decide) rfl d_Rd_init_9
set_option maxRecDepth 100000 in
set_option maxHeartbeats 8000000 in
theorem c_Me_init (l : Launch) (D : va_G) (K : Nat → ClassId) (a_t : Nat) : CtN l y_Me_init b_Me_init 1 { frames := 1, cells := 1, slots := 256, locals := 40 } D vwCl (xTy K) [.ref a_t] [(a_t, .inr (4, [.null]))] (fun (i : Nat → Nat) => [(a_t, .inr (4, [.ref (i 0)])), ((i 0), .inl (K 1, 256, .inl (fun _ => 0)))]) 1 256 := by
  refine CtN.ofG (by decide) (Nat.le_of_ble_eq_true rfl) ?_
  refine g_L (L' := [(0, .ref a_t)]) rfl ?_
  refine g_aload_n d_Me_init_0 rfl ?_
  refine g_init (gIn_ts tb_230 rfl) (gIn_ts tb_29 rfl) (gIn_ts tb_30 rfl) (by decide) (Nat.le_of_ble_eq_true rfl) d_Me_init_1 ?_
  refine g_aload_n d_Me_init_4 rfl ?_
  refine g_sipush (v := 256) d_Me_init_5 (by decide) ?_
  refine g_newa (atype := .int) (ty := .int) (a0 := (256, .inl (fun _ => 0))) (ws' := fun q8_0 => [(a_t, .inr (4, [.null])), (q8_0, .inl (K 1, 256, .inl (fun _ => 0)))]) (gIn_ts tb_201 rfl) rfl 1 rfl (fun _ h => h) (fun _ => rfl) (by decide) (by decide) (by decide) (Nat.le_of_ble_eq_true rfl) (Nat.le_of_ble_eq_true rfl) (fun _ => rfl) d_Me_init_8 (fun q8_0 => ?_)
  refine g_putF (ci := 4) (C := xR_Me) (T := xF_Me) (N := 1) (index := 9) in_Me rfl xT_Me xt_Me xn_Me 0 (by decide) (gIn_ts tb_231 rfl) rfl rfl rfl (ty := .array .int) (by decide +kernel) 0 rfl (v := .ref q8_0) rfl rfl (Nat.le_of_ble_eq_true rfl) (ws' := [(a_t, .inr (4, [.ref q8_0])), (q8_0, .inl (K 1, 256, .inl (fun _ => 0)))]) rfl d_Me_init_10 ?_
  exact g_vretN (fun k => ([q8_0] : List Nat).getD k 0) rfl (by decide) (by decide) rfl d_Me_init_13
set_option maxRecDepth 100000 in
set_option maxHeartbeats 8000000 in
theorem c_Fr_init (l : Launch) (D : va_G) (K : Nat → ClassId) (a_t : Nat) : CtN l y_Fr_init b_Fr_init 1 { frames := 1, cells := 1, slots := 8, locals := 40 } D vwCl (xTy K) [.ref a_t] [(a_t, .inr (1, [.null, .int 0, .int 0, .int 0]))] (fun (i : Nat → Nat) => [(a_t, .inr (1, [.ref (i 0), .int 255, .int 0, .int 0])), ((i 0), .inl (K 1, 8, .inl (fun _ => 0)))]) 1 8 := by
  refine CtN.ofG (by decide) (Nat.le_of_ble_eq_true rfl) ?_
  refine g_L (L' := [(0, .ref a_t)]) rfl ?_
  refine g_aload_n d_Fr_init_0 rfl ?_
  refine g_init (gIn_ts tb_240 rfl) (gIn_ts tb_29 rfl) (gIn_ts tb_30 rfl) (by decide) (Nat.le_of_ble_eq_true rfl) d_Fr_init_1 ?_
  refine g_aload_n d_Fr_init_4 rfl ?_
  refine g_bipush (v := 8) d_Fr_init_5 (by decide) ?_
  refine g_newa (atype := .int) (ty := .int) (a0 := (8, .inl (fun _ => 0))) (ws' := fun q7_0 => [(a_t, .inr (1, [.null, .int 0, .int 0, .int 0])), (q7_0, .inl (K 1, 8, .inl (fun _ => 0)))]) (gIn_ts tb_201 rfl) rfl 1 rfl (fun _ h => h) (fun _ => rfl) (by decide) (by decide) (by decide) (Nat.le_of_ble_eq_true rfl) (Nat.le_of_ble_eq_true rfl) (fun _ => rfl) d_Fr_init_7 (fun q7_0 => ?_)
  refine g_putF (ci := 1) (C := xR_Fr) (T := xF_Fr) (N := 4) (index := 9) in_Fr rfl xT_Fr xt_Fr xn_Fr 0 (by decide) (gIn_ts tb_241 rfl) rfl rfl rfl (ty := .array .int) (by decide +kernel) 0 rfl (v := .ref q7_0) rfl rfl (Nat.le_of_ble_eq_true rfl) (ws' := [(a_t, .inr (1, [.ref q7_0, .int 0, .int 0, .int 0])), (q7_0, .inl (K 1, 8, .inl (fun _ => 0)))]) rfl d_Fr_init_9 ?_
  refine g_aload_n d_Fr_init_12 rfl ?_
  refine g_sipush (v := 255) d_Fr_init_13 (by decide) ?_
  refine pf_Fr_15 0 rfl (v := .int 255) rfl rfl (Nat.le_of_ble_eq_true rfl) (ws' := [(a_t, .inr (1, [.ref q7_0, .int 255, .int 0, .int 0])), (q7_0, .inl (K 1, 8, .inl (fun _ => 0)))]) rfl d_Fr_init_16 ?_
  exact g_vretN (fun k => ([q7_0] : List Nat).getD k 0) rfl (by decide) (by decide) rfl d_Fr_init_19
set_option maxRecDepth 100000 in
set_option maxHeartbeats 8000000 in
theorem c_Ro_init (l : Launch) (D : va_G) (K : Nat → ClassId) (a_t : Nat) : CtN l y_Ro_init b_Ro_init 1 { frames := 1, cells := 3, slots := 27, locals := 40 } D vwCl (xTy K) [.ref a_t] [(a_t, .inr (7, [.null, .null, .null]))] (fun (i : Nat → Nat) => [(a_t, .inr (7, [.ref (i 0), .ref (i 1), .ref (i 2)])), ((i 0), .inl (K 1, 9, .inl (fun _ => 0))), ((i 1), .inl (K 1, 9, .inl (fun _ => 0))), ((i 2), .inl (K 1, 9, .inl (fun _ => 0)))]) 3 27 := by
  refine CtN.ofG (by decide) (Nat.le_of_ble_eq_true rfl) ?_
  refine g_L (L' := [(0, .ref a_t)]) rfl ?_
  refine g_aload_n d_Ro_init_0 rfl ?_
  refine g_init (gIn_ts tb_187 rfl) (gIn_ts tb_29 rfl) (gIn_ts tb_30 rfl) (by decide) (Nat.le_of_ble_eq_true rfl) d_Ro_init_1 ?_
  refine g_aload_n d_Ro_init_4 rfl ?_
  refine g_bipush (v := 9) d_Ro_init_5 (by decide) ?_
  refine g_newa (atype := .int) (ty := .int) (a0 := (9, .inl (fun _ => 0))) (ws' := fun q7_0 => [(a_t, .inr (7, [.null, .null, .null])), (q7_0, .inl (K 1, 9, .inl (fun _ => 0)))]) (gIn_ts tb_201 rfl) rfl 1 rfl (fun _ h => h) (fun _ => rfl) (by decide) (by decide) (by decide) (Nat.le_of_ble_eq_true rfl) (Nat.le_of_ble_eq_true rfl) (fun _ => rfl) d_Ro_init_7 (fun q7_0 => ?_)
  refine g_putF (ci := 7) (C := xR_Ro) (T := xF_Ro) (N := 3) (index := 11) in_Ro rfl xT_Ro xt_Ro xn_Ro 0 (by decide) (gIn_ts tb_188 rfl) rfl rfl rfl (ty := .array .int) (by decide +kernel) 0 rfl (v := .ref q7_0) rfl rfl (Nat.le_of_ble_eq_true rfl) (ws' := [(a_t, .inr (7, [.ref q7_0, .null, .null])), (q7_0, .inl (K 1, 9, .inl (fun _ => 0)))]) rfl d_Ro_init_9 ?_
  refine g_aload_n d_Ro_init_12 rfl ?_
  refine g_bipush (v := 9) d_Ro_init_13 (by decide) ?_
  refine g_newa (atype := .int) (ty := .int) (a0 := (9, .inl (fun _ => 0))) (ws' := fun q15_1 => [(a_t, .inr (7, [.ref q7_0, .null, .null])), (q7_0, .inl (K 1, 9, .inl (fun _ => 0))), (q15_1, .inl (K 1, 9, .inl (fun _ => 0)))]) (gIn_ts tb_201 rfl) rfl 1 rfl (fun _ h => h) (fun _ => rfl) (by decide) (by decide) (by decide) (Nat.le_of_ble_eq_true rfl) (Nat.le_of_ble_eq_true rfl) (fun _ => rfl) d_Ro_init_15 (fun q15_1 => ?_)
  refine g_putF (ci := 7) (C := xR_Ro) (T := xF_Ro) (N := 3) (index := 15) in_Ro rfl xT_Ro xt_Ro xn_Ro 1 (by decide) (gIn_ts tb_190 rfl) rfl rfl rfl (ty := .array .int) (by decide +kernel) 0 rfl (v := .ref q15_1) rfl rfl (Nat.le_of_ble_eq_true rfl) (ws' := [(a_t, .inr (7, [.ref q7_0, .ref q15_1, .null])), (q7_0, .inl (K 1, 9, .inl (fun _ => 0))), (q15_1, .inl (K 1, 9, .inl (fun _ => 0)))]) rfl d_Ro_init_17 ?_
  refine g_aload_n d_Ro_init_20 rfl ?_
  refine g_bipush (v := 9) d_Ro_init_21 (by decide) ?_
  refine g_newa (atype := .int) (ty := .int) (a0 := (9, .inl (fun _ => 0))) (ws' := fun q23_2 => [(a_t, .inr (7, [.ref q7_0, .ref q15_1, .null])), (q7_0, .inl (K 1, 9, .inl (fun _ => 0))), (q15_1, .inl (K 1, 9, .inl (fun _ => 0))), (q23_2, .inl (K 1, 9, .inl (fun _ => 0)))]) (gIn_ts tb_201 rfl) rfl 1 rfl (fun _ h => h) (fun _ => rfl) (by decide) (by decide) (by decide) (Nat.le_of_ble_eq_true rfl) (Nat.le_of_ble_eq_true rfl) (fun _ => rfl) d_Ro_init_23 (fun q23_2 => ?_)
  refine g_putF (ci := 7) (C := xR_Ro) (T := xF_Ro) (N := 3) (index := 18) in_Ro rfl xT_Ro xt_Ro xn_Ro 2 (by decide) (gIn_ts tb_192 rfl) rfl rfl rfl (ty := .array .int) (by decide +kernel) 0 rfl (v := .ref q23_2) rfl rfl (Nat.le_of_ble_eq_true rfl) (ws' := [(a_t, .inr (7, [.ref q7_0, .ref q15_1, .ref q23_2])), (q7_0, .inl (K 1, 9, .inl (fun _ => 0))), (q15_1, .inl (K 1, 9, .inl (fun _ => 0))), (q23_2, .inl (K 1, 9, .inl (fun _ => 0)))]) rfl d_Ro_init_25 ?_
  exact g_vretN (fun k => ([q7_0, q15_1, q23_2] : List Nat).getD k 0) rfl (by decide) (by decide) rfl d_Ro_init_28
