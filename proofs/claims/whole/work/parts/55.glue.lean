theorem tb_108 : (Jvm.Cond.arrayOver (Jvm.ClassFile.FieldType.object "FrameUnwinder$Entry")) ∈ lw_tbl := lw_in (List.mem_of_getElem? (i := 108) (by decide +kernel))
theorem tb_202 : (Jvm.Cond.arrayOver (Jvm.ClassFile.FieldType.object "FrameUnwinder$Row")) ∈ lw_tbl := lw_in (List.mem_of_getElem? (i := 202) (by decide +kernel))
theorem tb_430 : (Jvm.Cond.laysStatic "java/lang/Throwable" "UNASSIGNED_STACK" "[Ljava/lang/StackTraceElement;") ∈ lw_tbl := lw_in (List.mem_of_getElem? (i := 430) (by decide +kernel))
theorem tb_432 : (Jvm.Cond.laysStatic "java/lang/Throwable" "SUPPRESSED_SENTINEL" "Ljava/util/List;") ∈ lw_tbl := lw_in (List.mem_of_getElem? (i := 432) (by decide +kernel))
/-! the law's claim out of its walk, given what is pure -/
theorem gD12 {s : State} {args : Array Value} (ht : ∀ w ∈ gTs, w.before args s = true) : ∃ D : va_G, ∀ (c : Nat) (q : vw_C), vwCl[c]? = some q → u_Kn s q.1 q.2.1 q.2.2 (D.1 c) (D.2 c) := by
  obtain ⟨c0, i0, k0⟩ := u_known ht in_En (ht _ (gIn_ts tb_109 rfl))
  obtain ⟨c1, i1, k1⟩ := u_known ht in_Fr (ht _ (gIn_ts tb_236 rfl))
  obtain ⟨c2, i2, k2⟩ := u_known ht in_In (ht _ (gIn_ts tb_84 rfl))
  obtain ⟨c3, i3, k3⟩ := u_known ht in_La (ht _ (gIn_ts tb_78 rfl))
  obtain ⟨c4, i4, k4⟩ := u_known ht in_Me (ht _ (gIn_ts tb_226 rfl))
  obtain ⟨c5, i5, k5⟩ := u_known ht in_Rd (ht _ (gIn_ts tb_49 rfl))
  obtain ⟨c6, i6, k6⟩ := u_known ht in_Rk (ht _ (gIn_ts tb_260 rfl))
  obtain ⟨c7, i7, k7⟩ := u_known ht in_Ro (ht _ (gIn_ts tb_183 rfl))
  obtain ⟨c8, i8, k8⟩ := u_known ht in_Se (ht _ (gIn_ts tb_32 rfl))
  obtain ⟨c9, i9, k9⟩ := u_known ht in_Tr (ht _ (gIn_ts tb_175 rfl))
  obtain ⟨c10, i10, k10⟩ := u_known ht in_Fu (ht _ (gIn_ts tb_24 rfl))
  obtain ⟨c11, i11, k11⟩ := u_known ht in_Md (ht _ (gIn_ts tb_832 rfl))
  refine ⟨(fun c => match c with | 0 => c0 | 1 => c1 | 2 => c2 | 3 => c3 | 4 => c4 | 5 => c5 | 6 => c6 | 7 => c7 | 8 => c8 | 9 => c9 | 10 => c10 | _ => c11, fun c => match c with | 0 => i0 | 1 => i1 | 2 => i2 | 3 => i3 | 4 => i4 | 5 => i5 | 6 => i6 | 7 => i7 | 8 => i8 | 9 => i9 | 10 => i10 | _ => i11), fun c q hq => ?_⟩
  match c, hq with
  | 0, h =>
    have h2 : ((xR_En, xF_En, 10) : vw_C) = q := Option.some.inj h
    subst h2
    exact k0
  | 1, h =>
    have h2 : ((xR_Fr, xF_Fr, 4) : vw_C) = q := Option.some.inj h
    subst h2
    exact k1
  | 2, h =>
    have h2 : ((xR_In, xF_In, 4) : vw_C) = q := Option.some.inj h
    subst h2
    exact k2
  | 3, h =>
    have h2 : ((xR_La, xF_La, 5) : vw_C) = q := Option.some.inj h
    subst h2
    exact k3
  | 4, h =>
    have h2 : ((xR_Me, xF_Me, 1) : vw_C) = q := Option.some.inj h
    subst h2
    exact k4
  | 5, h =>
    have h2 : ((xR_Rd, xF_Rd, 4) : vw_C) = q := Option.some.inj h
    subst h2
    exact k5
  | 6, h =>
    have h2 : ((xR_Rk, xF_Rk, 8) : vw_C) = q := Option.some.inj h
    subst h2
    exact k6
  | 7, h =>
    have h2 : ((xR_Ro, xF_Ro, 3) : vw_C) = q := Option.some.inj h
    subst h2
    exact k7
  | 8, h =>
    have h2 : ((xR_Se, xF_Se, 2) : vw_C) = q := Option.some.inj h
    subst h2
    exact k8
  | 9, h =>
    have h2 : ((xR_Tr, xF_Tr, 7) : vw_C) = q := Option.some.inj h
    subst h2
    exact k9
  | 10, h =>
    have h2 : ((xR_Fu, xF_Fu, 8) : vw_C) = q := Option.some.inj h
    subst h2
    exact k10
  | 11, h =>
    have h2 : ((xR_Md, xF_Md, 32) : vw_C) = q := Option.some.inj h
    subst h2
    exact k11
  | n + 12, h => exact absurd (show (none : Option vw_C) = some q from h) (fun z => nomatch z)
theorem gAr {s : State} {args : Array Value} {ty : FieldType} (h : (Cond.arrayClass ty).before args s = true) (hR : ∀ c, s.vm.findClass ("[" ++ ty.toString) = some c → va_RA s c ty) : ∃ c, ArrOfT s c ty ∧ va_RA s c ty := by
  obtain ⟨c, k, comp, h1, h2, h3⟩ := Cond.arrayClass_spec h
  exact ⟨c, fun N z => ⟨(fun k h => by cases h), k, h2, comp, h3⟩, hR c h1⟩
theorem gArO {s : State} {C : String} (h : va_AO C s) : ∃ c, ArrOfT s c (.object C) ∧ va_RA s c (.object C) := by
  obtain ⟨comp, c, k, h1, -, h2, h3, h4⟩ := Cond.arrayOver_spec h
  exact ⟨c, fun N z => ⟨(fun k h => by cases h), k, h2, comp, h3⟩, k, comp, h2, h3, h1, h4⟩
theorem gKD {s : State} {args : Array Value} (ht : ∀ w ∈ gTs, w.before args s = true) (hO : gAO s) : ∃ (D : va_G) (K : Nat → ClassId), va_K D vwCl (xTy K) s := by
  obtain ⟨D, hD⟩ := gD12 ht
  obtain ⟨c0, a0⟩ := gAr (ty := .byte) (ht _ (gIn_ts tb_47 rfl)) (fun c h => h)
  obtain ⟨c1, a1⟩ := gAr (ty := .int) (ht _ (gIn_ts tb_201 rfl)) (fun c h => h)
  obtain ⟨c2, a2⟩ := gAr (ty := .boolean) (ht _ (gIn_ts tb_934 rfl)) (fun c h => h)
  obtain ⟨c3, a3⟩ := gAr (ty := .long) (ht _ (gIn_ts tb_1136 rfl)) (fun c h => h)
  obtain ⟨c4, a4⟩ := gArO hO.1
  obtain ⟨c5, a5⟩ := gArO hO.2
  refine ⟨D, (fun k => match k with | 0 => c0 | 1 => c1 | 2 => c2 | 3 => c3 | 4 => c4 | _ => c5), hD, fun k q hq => ?_⟩
  match k, hq with
  | 0, h =>
    have h2 : ((c0, .byte) : ClassId × FieldType) = q := Option.some.inj h
    subst h2; exact a0
  | 1, h =>
    have h2 : ((c1, .int) : ClassId × FieldType) = q := Option.some.inj h
    subst h2; exact a1
  | 2, h =>
    have h2 : ((c2, .boolean) : ClassId × FieldType) = q := Option.some.inj h
    subst h2; exact a2
  | 3, h =>
    have h2 : ((c3, .long) : ClassId × FieldType) = q := Option.some.inj h
    subst h2; exact a3
  | 4, h =>
    have h2 : ((c4, .object "FrameUnwinder$Entry") : ClassId × FieldType) = q := Option.some.inj h
    subst h2; exact a4
  | 5, h =>
    have h2 : ((c5, .object "FrameUnwinder$Row") : ClassId × FieldType) = q := Option.some.inj h
    subst h2; exact a5
  | n + 6, h => exact absurd (show (none : Option (ClassId × FieldType)) = some q from h) (fun z => nomatch z)
theorem gP0 {D : va_G} {cl : List vw_C} {H : Heap} : va_P D cl [] H := fun k q h => absurd h (by simp)
theorem gD0 {A : Nat → Prop} : va_D A [] := ⟨fun i j p q h => absurd h (by simp), fun k q h => absurd h (by simp)⟩
set_option maxHeartbeats 4000000 in
theorem lw_sdl {b L : Nat} {xs : Nat → Int32} {s : State} (hts : ∀ w ∈ lw_tbl, w.before #[Value.ref b] s = true) (hgv : (Jvm.Cond.and given_1 narrow_1).before #[Value.ref b] s = true) (hX : va_X b L xs s s.heap) (hb : b < s.heap.size) : gSdL b L xs s := by
  have hs := flat_of_before _ hgv
  have hA : ∀ a : Nat, a < s.heap.size → ¬ va_A [] s.heap.size a := fun a h z => absurd (gA0 z) (Nat.not_le.mpr h)
  refine ⟨⟨⟨gZ1.of (hts _ tb_430) (hs _ (by decide +kernel)) hA, gZ1.of (hts _ tb_432) (hs _ (by decide +kernel)) hA⟩, fun w hw => va_Nw.of (gDcl_tab (List.mem_filter.mp hw).2) (hts w (List.mem_filter.mp hw).1)⟩, ?_, hX, hb⟩
  intro q hq
  simp only [gPairs, List.mem_cons, List.not_mem_nil, or_false] at hq
  rcases hq with rfl | rfl | rfl
  · exact va_Nc.of (hs _ (by decide +kernel))
  · exact va_Nc.of (hs _ (by decide +kernel))
  · exact va_Nc.of (hs _ (by decide +kernel))
set_option maxHeartbeats 4000000 in
theorem lw_walk (hpure : ∀ (Ls : Nat) (ys : Nat → Int32), Ls ≤ 2048 → law0 Ls ys) (l : Launch) (hl : l.stackTraces = false) (b : Addr) (xs : List Int32) : MetFree l x (headSpec (Jvm.Cond.code x code maxLocals ret :: tables_1) room_1) (lw_P b xs) (fun _ _ _ _ _ => True) lw_Q := by
  refine MetFree.of_bodyS (code := code) (maxLocals := maxLocals) (ret := ret) (by decide) ?_ ?_
  · intro args s m h hn
    obtain ⟨meth, c, h1, h2, h3, h4, h5, h6, -, -⟩ := Cond.code_spec hn (atoms_spec (ws := Jvm.Cond.code x code maxLocals ret :: tables_1) h _ List.mem_cons_self)
    exact ⟨meth, c, h1, h2, h3, h4, h5, h6⟩
  · intro p e s m args below meth c s₁ B hml0 hP _
    obtain ⟨rfl, hx, hbd, hgv⟩ := hP
    obtain ⟨scr, harrAt, hlist, hof, hsmall⟩ := hx
    obtain ⟨hcb, hkn, -, -⟩ := State.arrayAt?_spec harrAt
    have hown : s.vm.findClass R_law = some m.cls := findClass_of_methodNamed B.named
    have hts0 : ∀ c ∈ (Jvm.Cond.code x code maxLocals ret :: tables_1), c.before #[Value.ref b] s = true := atoms_spec (ws := Jvm.Cond.code x code maxLocals ret :: tables_1) B.pre
    have hts : ∀ w ∈ lw_tbl, w.before #[Value.ref b] s = true := k2_hts_sels lw_privs (fun w hw => hts0 w (List.mem_cons_of_mem _ hw)) lw_privs_ok
    have hml : c.maxLocals = 7 := B.maxLocals_eq (hts0 _ List.mem_cons_self)
    have X₀ : Stand p l e room_1 s m #[Value.ref b] below meth c s₁ [] 0 0 := Stand.of_body B
    have hh0 : s₁.heap = s.heap := by rw [B.state]; rfl
    have hsz : scr.slots.size = xs.length := by rw [← Array.length_toList, hlist, List.length_map]
    have hval : ∀ j : Nat, j < xs.length → scr.slots[j]? = some (.int (xs.getD j 0)) := fun j hj => by
      rw [← Array.getElem?_toList, hlist]
      simp [hj]
    have hbl : b < s.heap.size := (Array.getElem?_eq_some_iff.mp hcb).1
    have hX : va_X b xs.length (fun j => xs.getD j 0) s s.heap := ⟨scr, hcb, hof, hkn, hsz, hval⟩
    have hO : gAO s := ⟨va_AO.of (hts _ tb_108), va_AO.of (hts _ tb_202)⟩
    have hN : gNw s := fun w hw => va_Nw.of (gNwd_tab (List.mem_filter.mp hw).2) (hts w (List.mem_filter.mp hw).1)
    have hT : ∀ w ∈ gTs, w.before #[Value.ref b] s = true := gTs_of (fun w hw => hts w (List.mem_filter.mp hw).1) hN
    obtain ⟨D, K, hK⟩ := gKD hT hO
    have hsd := lw_sdl hts hgv hX hbl
    have hsn : gSdN x below s := ⟨hO, fun m' a hf => by
      have h2 := B.frames.symm.trans hf
      injection h2 with h3 h4
      injection h3 with h5 h6
      rw [← h5]
      exact B.named⟩
    have K : W p l e room_1 s m #[Value.ref b] below meth c s₁.heap [] 0 0 (lw_Z below #[Value.ref b] s) (entryFrame m ([Value.ref b] : List Value).toArray 7) := by
      rw [hh0, lg_entry_eq]
      have hlv := lv_entry [Value.ref b] (n := 7) (Nat.le_of_ble_eq_true rfl)
      have W0 := st_law l hl D K b xs.length (fun j => xs.getD j 0) (hpure _ _ hbd) p e s m below meth c ⟨B.exec, B.bytes, hml, hown, hT, hK⟩ hN B.returns B.notSynchronized (fun q h => Or.inr h) s.heap [] _ gP0 gD0 va_S.rf hlv
      intro T hT X
      obtain ⟨t, a, q⟩ := W0 T hT X
      exact ⟨t, a, q hsn hsd⟩
    obtain ⟨t, a1, o, b1, b2, b3⟩ := K s₁ rfl X₀
    exact ⟨t, o, a1, b1, b2, b3⟩
theorem lw_pre_spec {args : Array Value} {s : State} (h : (Jvm.Cond.and given_1 narrow_1).before args s = true) (hr : rest_1_c.before args s = true) : ∃ (b : Addr) (xs : List Int32), lw_P b xs args s := by
  have hs := flat_of_before _ h
  have hq := flat_of_before _ hr
  have hc : (Cond.count 1).before args s = true := hs _ (by decide +kernel)
  have harr : (Cond.arrayOf (.arg 0) .int).before args s = true := hs _ (by decide +kernel)
  have hle : (Cond.le (.length (.arg 0)) (.int 2048)).before args s = true := hs _ (by decide +kernel)
  have hlen : (Cond.isInt (.length (.arg 0))).before args s = true := hq _ (by decide +kernel)
  have hall : (Cond.all (.arg 0) (.isInt (.elem (.arg 0) (.index 0)))).before args s = true := hq _ (by decide +kernel)
  obtain ⟨b, xs, hb, hx⟩ := State.ints_of_pre rfl harr hlen hall
  have hsm : xs.length < 2 ^ 31 := hx.choose_spec.2.2.2
  have hev : (Term.length (.arg 0)).eval args s none [] s = some (.int xs.length.toInt32) := hx.length_eval hb
  have hv := Cond.le_ints hev (show (Term.int 2048).eval args s none [] s = some (.int 2048) from rfl)
  have hd : xs.length.toInt32 ≤ 2048 := by
    simpa [Cond.before, Cond.holds, hv] using hle
  have hN : xs.length ≤ 2048 := (Int32.ofNat_le_ofNat hsm (by decide)).mp (show Int32.ofNat xs.length ≤ Int32.ofNat 2048 from hd)
  exact ⟨b, xs, Cond.one_arg hc (show args[0]? = some (.ref b) from hb), hx, hN, h⟩
theorem lw_comes (hpure : ∀ (Ls : Nat) (ys : Nat → Int32), Ls ≤ 2048 → law0 Ls ys) (l : Launch) (hl : l.stackTraces = false) : Comes l x (Jvm.Cond.code x code maxLocals ret :: tables_1) room_1 (fun tb e args s => Calls_1 tb e args s ∧ rest_1 tb e args s ∧ Pre_1 tb e args s)
    (fun _ _ args s o t => lw_Q args s o t) := by
  intro p e ha hc hk s m args below hf hfit hheap happ hpre
  obtain ⟨b, xs, hP⟩ := lw_pre_spec hpre.2.2 hpre.2.1
  obtain ⟨k, o, h1, h2, h3, hQ⟩ := lw_walk hpure l hl b xs p e ha hc hk s m args below hf ((Spec.applies_iff_loose hf).mp happ).1 hP trivial
  exact ⟨k, o, h1, h2, h3, hQ⟩
theorem lw_frame {s t : State} {o : Outcome} {args : Array Value} (h : Framed s o t [] 601024 7293034) :
    Framed s o t (fieldLocs frame_1_writes args s ++ arrayLocs frame_1_arrays args s ++ staticLocs frame_1_statics s) 601024 7293034 := h
theorem lw_limb (hpure : ∀ (Ls : Nat) (ys : Nat → Int32), Ls ≤ 2048 → law0 Ls ys) (L : Cond) (hL : ∀ (args : Array Value) (s t : State), L.after args s (.returned (some (.int 1))) t = true) :
    ArmFor flags0 classFile x code maxLocals ret World_1 tables_1 room_1 Calls_1 rest_1 Pre_1
      (fun tb e a s o t => postC L tb e a s o t ∧ Framed s o t (fieldLocs frame_1_writes a s ++ arrayLocs frame_1_arrays a s ++ staticLocs frame_1_statics s) 601024 7293034) := by
  intro l hfl _ _ p e ha hc hk s m args below hf hfit hheap happ hpre
  have hl : l.stackTraces = false := by unfold Launch.stackTraces; rw [hfl]; decide +kernel
  obtain ⟨k, o, h1, h2, h3, rfl, hF⟩ := lw_comes hpure l hl p e ha hc hk s m args below hf hfit hheap happ hpre
  exact ⟨k, _, h1, h2, h3, hL args s _, lw_frame hF⟩
theorem i_vc0 (hpure : ∀ (Ls : Nat) (ys : Nat → Int32), Ls ≤ 2048 → law0 Ls ys) : Claimed_1_1 ∧ Claimed_1_2 := ⟨lw_limb hpure limb_1_1 (fun args s t => by simp [limb_1_1, Cond.after, Cond.holds, Cond.value]), lw_limb hpure limb_1_2 (fun args s t => Cond.after_iff.mpr (by
  first | (rw [show limb_1_2 = Cond.eq .result (.int 1) from rfl, Cond.eq_ints (x := 1) (y := 1) rfl rfl]; simp; done) | (simp [limb_1_2, Cond.value, Term.eval]; done)))⟩
