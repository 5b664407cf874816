theorem gf_Fu_18 {l : Launch} {y : MethodName} {b : ByteArray} {nL : Nat} {ret : Option FieldType} {rm : Room} {D : va_G} {tys : List (ClassId × FieldType)} {av : List Value} {w0 : va_W} {Qf : List Frame → State → State → Prop} {cells slots : Nat} {ws : va_W} {L : List (Nat × Value)} {pc : Nat} {rest : List Value} {a : Nat} (q0 : Nat) {fs : List Value} (he : ws[q0]? = some (a, .inr (8, fs))) {v : Value} (hv : fs[0]? = some v) (d : decode b pc = .ok (.getfield 18, 3)) (k0 : Gm l y b nL ret rm D vwCl tys av w0 Qf cells slots ws L (pc + 3) (v :: rest)) (hy : y.cls = "FrameUnwinder" := by rfl) : Gm l y b nL ret rm D vwCl tys av w0 Qf cells slots ws L pc (.ref a :: rest) :=
  g_getN (ref := "FrameUnwinder$Section") (host := "FrameUnwinder") (C := xR_Se) (T := xF_Se) (N := 2) in_Se rfl 0 (by decide) (by rw [hy]; exact gIn_nest tb_38 rfl) rfl q0 he hv d k0
abbrev b_En_init : ByteArray := prog_2_method_1_code
def y_En_init : MethodName := ⟨"FrameUnwinder$Entry", "<init>", "()V"⟩
theorem hd_En_init : y_En_init.cls = "FrameUnwinder$Entry" ∧ y_En_init.cls ≠ "java/lang/invoke/MethodHandle" ∧ y_En_init.cls ≠ "java/lang/invoke/VarHandle" ∧ (parseMethodDescriptor y_En_init.desc).map (fun d => d.parameters.length) = some 0 := by decide +kernel
abbrev b_In_init : ByteArray := prog_4_method_1_code
def y_In_init : MethodName := ⟨"FrameUnwinder$Instruction", "<init>", "()V"⟩
theorem hd_In_init : y_In_init.cls = "FrameUnwinder$Instruction" ∧ y_In_init.cls ≠ "java/lang/invoke/MethodHandle" ∧ y_In_init.cls ≠ "java/lang/invoke/VarHandle" ∧ (parseMethodDescriptor y_In_init.desc).map (fun d => d.parameters.length) = some 0 := by decide +kernel
abbrev b_Se_init : ByteArray := prog_10_method_1_code
def y_Se_init : MethodName := ⟨"FrameUnwinder$Section", "<init>", "()V"⟩
theorem hd_Se_init : y_Se_init.cls = "FrameUnwinder$Section" ∧ y_Se_init.cls ≠ "java/lang/invoke/MethodHandle" ∧ y_Se_init.cls ≠ "java/lang/invoke/VarHandle" ∧ (parseMethodDescriptor y_Se_init.desc).map (fun d => d.parameters.length) = some 0 := by decide +kernel
abbrev b_Rd_init : ByteArray := prog_7_method_1_code
def y_Rd_init : MethodName := ⟨"FrameUnwinder$Reader", "<init>", "([B)V"⟩
theorem hd_Rd_init : y_Rd_init.cls = "FrameUnwinder$Reader" ∧ y_Rd_init.cls ≠ "java/lang/invoke/MethodHandle" ∧ y_Rd_init.cls ≠ "java/lang/invoke/VarHandle" ∧ (parseMethodDescriptor y_Rd_init.desc).map (fun d => d.parameters.length) = some 1 := by decide +kernel
abbrev b_Me_init : ByteArray := prog_6_method_1_code
def y_Me_init : MethodName := ⟨"FrameUnwinder$Memory", "<init>", "()V"⟩
theorem hd_Me_init : y_Me_init.cls = "FrameUnwinder$Memory" ∧ y_Me_init.cls ≠ "java/lang/invoke/MethodHandle" ∧ y_Me_init.cls ≠ "java/lang/invoke/VarHandle" ∧ (parseMethodDescriptor y_Me_init.desc).map (fun d => d.parameters.length) = some 0 := by decide +kernel
abbrev b_Fr_init : ByteArray := prog_3_method_1_code
def y_Fr_init : MethodName := ⟨"FrameUnwinder$Frame", "<init>", "()V"⟩
theorem hd_Fr_init : y_Fr_init.cls = "FrameUnwinder$Frame" ∧ y_Fr_init.cls ≠ "java/lang/invoke/MethodHandle" ∧ y_Fr_init.cls ≠ "java/lang/invoke/VarHandle" ∧ (parseMethodDescriptor y_Fr_init.desc).map (fun d => d.parameters.length) = some 0 := by decide +kernel
abbrev b_Ro_init : ByteArray := prog_9_method_1_code
def y_Ro_init : MethodName := ⟨"FrameUnwinder$Row", "<init>", "()V"⟩
theorem hd_Ro_init : y_Ro_init.cls = "FrameUnwinder$Row" ∧ y_Ro_init.cls ≠ "java/lang/invoke/MethodHandle" ∧ y_Ro_init.cls ≠ "java/lang/invoke/VarHandle" ∧ (parseMethodDescriptor y_Ro_init.desc).map (fun d => d.parameters.length) = some 0 := by decide +kernel
abbrev b_La_init : ByteArray := prog_5_method_1_code
def y_La_init : MethodName := ⟨"FrameUnwinder$Layout", "<init>", "(LFrameUnwinder$Section;LFrameUnwinder$Reader;)V"⟩
theorem hd_La_init : y_La_init.cls = "FrameUnwinder$Layout" ∧ y_La_init.cls ≠ "java/lang/invoke/MethodHandle" ∧ y_La_init.cls ≠ "java/lang/invoke/VarHandle" ∧ (parseMethodDescriptor y_La_init.desc).map (fun d => d.parameters.length) = some 2 := by decide +kernel
abbrev b_Tr_init : ByteArray := prog_11_method_1_code
def y_Tr_init : MethodName := ⟨"FrameUnwinder$Tracer", "<init>", "(LFrameUnwinder$Reader;)V"⟩
theorem hd_Tr_init : y_Tr_init.cls = "FrameUnwinder$Tracer" ∧ y_Tr_init.cls ≠ "java/lang/invoke/MethodHandle" ∧ y_Tr_init.cls ≠ "java/lang/invoke/VarHandle" ∧ (parseMethodDescriptor y_Tr_init.desc).map (fun d => d.parameters.length) = some 1 := by decide +kernel
abbrev b_Rk_init : ByteArray := prog_8_method_1_code
def y_Rk_init : MethodName := ⟨"FrameUnwinder$Reckoner", "<init>", "(LFrameUnwinder$Reader;LFrameUnwinder$Memory;LFrameUnwinder$Frame;)V"⟩
theorem hd_Rk_init : y_Rk_init.cls = "FrameUnwinder$Reckoner" ∧ y_Rk_init.cls ≠ "java/lang/invoke/MethodHandle" ∧ y_Rk_init.cls ≠ "java/lang/invoke/VarHandle" ∧ (parseMethodDescriptor y_Rk_init.desc).map (fun d => d.parameters.length) = some 3 := by decide +kernel
abbrev b_Fu_init : ByteArray := prog_1_method_1_code
def y_Fu_init : MethodName := ⟨"FrameUnwinder", "<init>", "()V"⟩
theorem hd_Fu_init : y_Fu_init.cls = "FrameUnwinder" ∧ y_Fu_init.cls ≠ "java/lang/invoke/MethodHandle" ∧ y_Fu_init.cls ≠ "java/lang/invoke/VarHandle" ∧ (parseMethodDescriptor y_Fu_init.desc).map (fun d => d.parameters.length) = some 0 := by decide +kernel
abbrev b_Md_init : ByteArray := prog_13_method_1_code
def y_Md_init : MethodName := ⟨"FrameUnwinderModel", "<init>", "()V"⟩
theorem hd_Md_init : y_Md_init.cls = "FrameUnwinderModel" ∧ y_Md_init.cls ≠ "java/lang/invoke/MethodHandle" ∧ y_Md_init.cls ≠ "java/lang/invoke/VarHandle" ∧ (parseMethodDescriptor y_Md_init.desc).map (fun d => d.parameters.length) = some 0 := by decide +kernel
theorem df_Fu : ∀ j, j < 8 → defaultValue (xT_Fu j) = vp_V [.null, .null, .null, .null, .null, .null, .null, .int 0] j := by
  intro j hj
  match j, hj with
  | 0, _ => rfl
  | 1, _ => rfl
  | 2, _ => rfl
  | 3, _ => rfl
  | 4, _ => rfl
  | 5, _ => rfl
  | 6, _ => rfl
  | 7, _ => rfl
theorem df_En : ∀ j, j < 10 → defaultValue (xT_En j) = vp_V [.int 0, .int 0, .int 0, .int 0, .int 0, .int 0, .int 0, .int 0, .int 0, .int 0] j := by
  intro j hj
  match j, hj with
  | 0, _ => rfl
  | 1, _ => rfl
  | 2, _ => rfl
  | 3, _ => rfl
  | 4, _ => rfl
  | 5, _ => rfl
  | 6, _ => rfl
  | 7, _ => rfl
  | 8, _ => rfl
  | 9, _ => rfl
theorem df_Fr : ∀ j, j < 4 → defaultValue (xT_Fr j) = vp_V [.null, .int 0, .int 0, .int 0] j := by
  intro j hj
  match j, hj with
  | 0, _ => rfl
  | 1, _ => rfl
  | 2, _ => rfl
  | 3, _ => rfl
theorem df_In : ∀ j, j < 4 → defaultValue (xT_In j) = vp_V [.int 0, .int 0, .int 0, .int 0] j := by
  intro j hj
  match j, hj with
  | 0, _ => rfl
  | 1, _ => rfl
  | 2, _ => rfl
  | 3, _ => rfl
theorem df_La : ∀ j, j < 5 → defaultValue (xT_La j) = vp_V [.null, .null, .null, .null, .int 0] j := by
  intro j hj
  match j, hj with
  | 0, _ => rfl
  | 1, _ => rfl
  | 2, _ => rfl
  | 3, _ => rfl
  | 4, _ => rfl
theorem df_Me : ∀ j, j < 1 → defaultValue (xT_Me j) = vp_V [.null] j := by
  intro j hj
  match j, hj with
  | 0, _ => rfl
theorem df_Rd : ∀ j, j < 4 → defaultValue (xT_Rd j) = vp_V [.null, .int 0, .int 0, .int 0] j := by
  intro j hj
  match j, hj with
  | 0, _ => rfl
  | 1, _ => rfl
  | 2, _ => rfl
  | 3, _ => rfl
theorem df_Rk : ∀ j, j < 8 → defaultValue (xT_Rk j) = vp_V [.null, .null, .null, .null, .int 0, .int 0, .int 0, .int 0] j := by
  intro j hj
  match j, hj with
  | 0, _ => rfl
  | 1, _ => rfl
  | 2, _ => rfl
  | 3, _ => rfl
  | 4, _ => rfl
  | 5, _ => rfl
  | 6, _ => rfl
  | 7, _ => rfl
theorem df_Ro : ∀ j, j < 3 → defaultValue (xT_Ro j) = vp_V [.null, .null, .null] j := by
  intro j hj
  match j, hj with
  | 0, _ => rfl
  | 1, _ => rfl
  | 2, _ => rfl
theorem df_Se : ∀ j, j < 2 → defaultValue (xT_Se j) = vp_V [.null, .int 0] j := by
  intro j hj
  match j, hj with
  | 0, _ => rfl
  | 1, _ => rfl
theorem df_Tr : ∀ j, j < 7 → defaultValue (xT_Tr j) = vp_V [.null, .null, .null, .null, .null, .int 0, .int 0] j := by
  intro j hj
  match j, hj with
  | 0, _ => rfl
  | 1, _ => rfl
  | 2, _ => rfl
  | 3, _ => rfl
  | 4, _ => rfl
  | 5, _ => rfl
  | 6, _ => rfl
theorem df_Md : ∀ j, j < 32 → defaultValue (xT_Md j) = vp_V [.int 0, .null, .int 0, .int 0, .null, .null, .null, .null, .null, .null, .null, .null, .null, .null, .int 0, .int 0, .int 0, .null, .null, .null, .int 0, .int 0, .null, .int 0, .int 0, .int 0, .null, .null, .int 0, .int 0, .int 0, .null] j := by
  intro j hj
  match j, hj with
  | 0, _ => rfl
  | 1, _ => rfl
  | 2, _ => rfl
  | 3, _ => rfl
  | 4, _ => rfl
  | 5, _ => rfl
  | 6, _ => rfl
  | 7, _ => rfl
  | 8, _ => rfl
  | 9, _ => rfl
  | 10, _ => rfl
  | 11, _ => rfl
  | 12, _ => rfl
  | 13, _ => rfl
  | 14, _ => rfl
  | 15, _ => rfl
  | 16, _ => rfl
  | 17, _ => rfl
  | 18, _ => rfl
  | 19, _ => rfl
  | 20, _ => rfl
  | 21, _ => rfl
  | 22, _ => rfl
  | 23, _ => rfl
  | 24, _ => rfl
  | 25, _ => rfl
  | 26, _ => rfl
  | 27, _ => rfl
  | 28, _ => rfl
  | 29, _ => rfl
  | 30, _ => rfl
  | 31, _ => rfl
  | k + 32, h => exact absurd h (by omega)
theorem ci_La_21 {R rm2 : Room} (h0 : rm2.cells = 0) (h1 : rm2.slots = 0) (hR : rm2.frames + 1 ≤ R.frames ∧ 8 + (1 + 11) + rm2.locals ≤ R.locals) (s : State) (args : Array Value) (ht : ∀ w ∈ gTs, w.before args s = true) : va_CN R s args "FrameUnwinder$Layout" 21 y_In_init "FrameUnwinder" b_In_init 1 none (gW y_In_init b_In_init 1 none) rm2 0 0 0 ∧ y_In_init.name = "<init>" ∧ (Cond.instanceMethod y_In_init).before args s = true :=
  ⟨va_cnB 0 ht (gGI tb_87) rfl h0 h1 (va_Nw.of rfl (ht _ (gIn_nest tb_85 rfl))) (ht _ (gIn_ts tb_5 rfl)) hd_In_init.2 hR, rfl, ht _ (gIn_ts tb_86 rfl)⟩
theorem ci_La_32 {R rm2 : Room} (h0 : rm2.cells = 0) (h1 : rm2.slots = 0) (hR : rm2.frames + 1 ≤ R.frames ∧ 8 + (1 + 11) + rm2.locals ≤ R.locals) (s : State) (args : Array Value) (ht : ∀ w ∈ gTs, w.before args s = true) : va_CN R s args "FrameUnwinder$Layout" 32 y_En_init "FrameUnwinder" b_En_init 1 none (gW y_En_init b_En_init 1 none) rm2 0 0 0 ∧ y_En_init.name = "<init>" ∧ (Cond.instanceMethod y_En_init).before args s = true :=
  ⟨va_cnB 0 ht (gGI tb_112) rfl h0 h1 (va_Nw.of rfl (ht _ (gIn_nest tb_110 rfl))) (ht _ (gIn_ts tb_6 rfl)) hd_En_init.2 hR, rfl, ht _ (gIn_ts tb_111 rfl)⟩
theorem ci_Tr_17 {R rm2 : Room} (h0 : rm2.cells = 0) (h1 : rm2.slots = 0) (hR : rm2.frames + 1 ≤ R.frames ∧ 8 + (1 + 11) + rm2.locals ≤ R.locals) (s : State) (args : Array Value) (ht : ∀ w ∈ gTs, w.before args s = true) : va_CN R s args "FrameUnwinder$Tracer" 17 y_In_init "FrameUnwinder" b_In_init 1 none (gW y_In_init b_In_init 1 none) rm2 0 0 0 ∧ y_In_init.name = "<init>" ∧ (Cond.instanceMethod y_In_init).before args s = true :=
  ⟨va_cnB 0 ht (gGI tb_87) rfl h0 h1 (va_Nw.of rfl (ht _ (gIn_nest tb_181 rfl))) (ht _ (gIn_ts tb_5 rfl)) hd_In_init.2 hR, rfl, ht _ (gIn_ts tb_86 rfl)⟩
theorem ci_Tr_24 {R rm2 : Room} (h0 : rm2.cells = 3) (h1 : rm2.slots = 27) (hR : rm2.frames + 1 ≤ R.frames ∧ 8 + (1 + 11) + rm2.locals ≤ R.locals) (s : State) (args : Array Value) (ht : ∀ w ∈ gTs, w.before args s = true) : va_CN R s args "FrameUnwinder$Tracer" 24 y_Ro_init "FrameUnwinder" b_Ro_init 1 none (gW y_Ro_init b_Ro_init 1 none) rm2 3 27 0 ∧ y_Ro_init.name = "<init>" ∧ (Cond.instanceMethod y_Ro_init).before args s = true :=
  ⟨va_cnB 0 ht (gGI tb_186) rfl h0 h1 (va_Nw.of rfl (ht _ (gIn_nest tb_184 rfl))) (ht _ (gIn_ts tb_8 rfl)) hd_Ro_init.2 hR, rfl, ht _ (gIn_ts tb_185 rfl)⟩
theorem ci_Fu_9 {R rm2 : Room} (h0 : rm2.cells = 1) (h1 : rm2.slots = 512) (hR : rm2.frames + 1 ≤ R.frames ∧ 8 + (1 + 11) + rm2.locals ≤ R.locals) (s : State) (args : Array Value) (ht : ∀ w ∈ gTs, w.before args s = true) : va_CN R s args "FrameUnwinder" 9 y_Se_init "FrameUnwinder" b_Se_init 1 none (gW y_Se_init b_Se_init 1 none) rm2 1 512 0 ∧ y_Se_init.name = "<init>" ∧ (Cond.instanceMethod y_Se_init).before args s = true :=
  ⟨va_cnB 0 ht (gGI tb_35) rfl h0 h1 (va_Nw.of rfl (ht _ (gIn_nest tb_33 rfl))) (ht _ (gIn_ts tb_2 rfl)) hd_Se_init.2 hR, rfl, ht _ (gIn_ts tb_34 rfl)⟩
theorem ci_Fu_22 {R rm2 : Room} (h0 : rm2.cells = 0) (h1 : rm2.slots = 0) (hR : rm2.frames + 1 ≤ R.frames ∧ 8 + (2 + 11) + rm2.locals ≤ R.locals) (s : State) (args : Array Value) (ht : ∀ w ∈ gTs, w.before args s = true) : CallB R s args "FrameUnwinder" 22 y_Rd_init b_Rd_init 2 none (gW y_Rd_init b_Rd_init 2 none) rm2 0 0 1 ∧ y_Rd_init.name = "<init>" ∧ (Cond.instanceMethod y_Rd_init).before args s = true :=
  cwI 1 ht (gGI tb_52) rfl h0 h1 (ht _ (gIn_ts tb_3 rfl)) (ht _ (gIn_ts tb_50 rfl)) (ht _ (gIn_ts tb_51 rfl)) rfl hd_Rd_init.2 hR
theorem ci_Fu_27 {R rm2 : Room} (h0 : rm2.cells = 18) (h1 : rm2.slots = 180) (hR : rm2.frames + 1 ≤ R.frames ∧ 8 + (4 + 11) + rm2.locals ≤ R.locals) (s : State) (args : Array Value) (ht : ∀ w ∈ gTs, w.before args s = true) : CallB R s args "FrameUnwinder" 27 y_La_init b_La_init 4 none (gW y_La_init b_La_init 4 none) rm2 18 180 2 ∧ y_La_init.name = "<init>" ∧ (Cond.instanceMethod y_La_init).before args s = true :=
  cwI 2 ht (gGI tb_81) rfl h0 h1 (ht _ (gIn_ts tb_4 rfl)) (ht _ (gIn_ts tb_79 rfl)) (ht _ (gIn_ts tb_80 rfl)) rfl hd_La_init.2 hR
theorem ci_Fu_36 {R rm2 : Room} (h0 : rm2.cells = 26) (h1 : rm2.slots = 188) (hR : rm2.frames + 1 ≤ R.frames ∧ 8 + (3 + 11) + rm2.locals ≤ R.locals) (s : State) (args : Array Value) (ht : ∀ w ∈ gTs, w.before args s = true) : CallB R s args "FrameUnwinder" 36 y_Tr_init b_Tr_init 3 none (gW y_Tr_init b_Tr_init 3 none) rm2 26 188 1 ∧ y_Tr_init.name = "<init>" ∧ (Cond.instanceMethod y_Tr_init).before args s = true :=
  cwI 1 ht (gGI tb_178) rfl h0 h1 (ht _ (gIn_ts tb_7 rfl)) (ht _ (gIn_ts tb_176 rfl)) (ht _ (gIn_ts tb_177 rfl)) rfl hd_Tr_init.2 hR
theorem ci_Fu_45 {R rm2 : Room} (h0 : rm2.cells = 1) (h1 : rm2.slots = 256) (hR : rm2.frames + 1 ≤ R.frames ∧ 8 + (1 + 11) + rm2.locals ≤ R.locals) (s : State) (args : Array Value) (ht : ∀ w ∈ gTs, w.before args s = true) : va_CN R s args "FrameUnwinder" 45 y_Me_init "FrameUnwinder" b_Me_init 1 none (gW y_Me_init b_Me_init 1 none) rm2 1 256 0 ∧ y_Me_init.name = "<init>" ∧ (Cond.instanceMethod y_Me_init).before args s = true :=
  ⟨va_cnB 0 ht (gGI tb_229) rfl h0 h1 (va_Nw.of rfl (ht _ (gIn_nest tb_227 rfl))) (ht _ (gIn_ts tb_9 rfl)) hd_Me_init.2 hR, rfl, ht _ (gIn_ts tb_228 rfl)⟩
theorem ci_Fu_52 {R rm2 : Room} (h0 : rm2.cells = 1) (h1 : rm2.slots = 8) (hR : rm2.frames + 1 ≤ R.frames ∧ 8 + (1 + 11) + rm2.locals ≤ R.locals) (s : State) (args : Array Value) (ht : ∀ w ∈ gTs, w.before args s = true) : va_CN R s args "FrameUnwinder" 52 y_Fr_init "FrameUnwinder" b_Fr_init 1 none (gW y_Fr_init b_Fr_init 1 none) rm2 1 8 0 ∧ y_Fr_init.name = "<init>" ∧ (Cond.instanceMethod y_Fr_init).before args s = true :=
  ⟨va_cnB 0 ht (gGI tb_239) rfl h0 h1 (va_Nw.of rfl (ht _ (gIn_nest tb_237 rfl))) (ht _ (gIn_ts tb_10 rfl)) hd_Fr_init.2 hR, rfl, ht _ (gIn_ts tb_238 rfl)⟩
theorem ci_Fu_62 {R rm2 : Room} (h0 : rm2.cells = 1) (h1 : rm2.slots = 16) (hR : rm2.frames + 1 ≤ R.frames ∧ 8 + (4 + 11) + rm2.locals ≤ R.locals) (s : State) (args : Array Value) (ht : ∀ w ∈ gTs, w.before args s = true) : CallB R s args "FrameUnwinder" 62 y_Rk_init b_Rk_init 4 none (gW y_Rk_init b_Rk_init 4 none) rm2 1 16 3 ∧ y_Rk_init.name = "<init>" ∧ (Cond.instanceMethod y_Rk_init).before args s = true :=
  cwI 3 ht (gGI tb_263) rfl h0 h1 (ht _ (gIn_ts tb_11 rfl)) (ht _ (gIn_ts tb_261 rfl)) (ht _ (gIn_ts tb_262 rfl)) rfl hd_Rk_init.2 hR
