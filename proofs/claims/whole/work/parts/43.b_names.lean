
abbrev b_Lw_feed : ByteArray := method_3_code
def y_Lw_feed : MethodName := ⟨"FrameUnwinderLaw", "feed", "(LFrameUnwinder;I[J)I"⟩
theorem hd_Lw_feed : y_Lw_feed.cls = "FrameUnwinderLaw" ∧ y_Lw_feed.cls ≠ "java/lang/invoke/MethodHandle" ∧ y_Lw_feed.cls ≠ "java/lang/invoke/VarHandle" ∧ (parseMethodDescriptor y_Lw_feed.desc).map (fun d => d.parameters.length) = some 3 := by decide +kernel
abbrev b_Lw_end : ByteArray := method_4_code
def y_Lw_end : MethodName := ⟨"FrameUnwinderLaw", "end", "(LFrameUnwinder;I)I"⟩
theorem hd_Lw_end : y_Lw_end.cls = "FrameUnwinderLaw" ∧ y_Lw_end.cls ≠ "java/lang/invoke/MethodHandle" ∧ y_Lw_end.cls ≠ "java/lang/invoke/VarHandle" ∧ (parseMethodDescriptor y_Lw_end.desc).map (fun d => d.parameters.length) = some 2 := by decide +kernel
abbrev b_Lw_spoil : ByteArray := method_5_code
def y_Lw_spoil : MethodName := ⟨"FrameUnwinderLaw", "spoil", "(LFrameUnwinder;II[J)I"⟩
theorem hd_Lw_spoil : y_Lw_spoil.cls = "FrameUnwinderLaw" ∧ y_Lw_spoil.cls ≠ "java/lang/invoke/MethodHandle" ∧ y_Lw_spoil.cls ≠ "java/lang/invoke/VarHandle" ∧ (parseMethodDescriptor y_Lw_spoil.desc).map (fun d => d.parameters.length) = some 4 := by decide +kernel
abbrev b_Lw_find : ByteArray := method_6_code
def y_Lw_find : MethodName := ⟨"FrameUnwinderLaw", "find", "(LFrameUnwinder;I[J)I"⟩
theorem hd_Lw_find : y_Lw_find.cls = "FrameUnwinderLaw" ∧ y_Lw_find.cls ≠ "java/lang/invoke/MethodHandle" ∧ y_Lw_find.cls ≠ "java/lang/invoke/VarHandle" ∧ (parseMethodDescriptor y_Lw_find.desc).map (fun d => d.parameters.length) = some 3 := by decide +kernel
abbrev b_Lw_row : ByteArray := method_7_code
def y_Lw_row : MethodName := ⟨"FrameUnwinderLaw", "row", "(LFrameUnwinder;III[J)I"⟩
theorem hd_Lw_row : y_Lw_row.cls = "FrameUnwinderLaw" ∧ y_Lw_row.cls ≠ "java/lang/invoke/MethodHandle" ∧ y_Lw_row.cls ≠ "java/lang/invoke/VarHandle" ∧ (parseMethodDescriptor y_Lw_row.desc).map (fun d => d.parameters.length) = some 5 := by decide +kernel
abbrev b_Lw_word : ByteArray := method_8_code
def y_Lw_word : MethodName := ⟨"FrameUnwinderLaw", "word", "(LFrameUnwinder;II)I"⟩
theorem hd_Lw_word : y_Lw_word.cls = "FrameUnwinderLaw" ∧ y_Lw_word.cls ≠ "java/lang/invoke/MethodHandle" ∧ y_Lw_word.cls ≠ "java/lang/invoke/VarHandle" ∧ (parseMethodDescriptor y_Lw_word.desc).map (fun d => d.parameters.length) = some 3 := by decide +kernel
abbrev b_Lw_register : ByteArray := method_9_code
def y_Lw_register : MethodName := ⟨"FrameUnwinderLaw", "register", "(LFrameUnwinder;II)I"⟩
theorem hd_Lw_register : y_Lw_register.cls = "FrameUnwinderLaw" ∧ y_Lw_register.cls ≠ "java/lang/invoke/MethodHandle" ∧ y_Lw_register.cls ≠ "java/lang/invoke/VarHandle" ∧ (parseMethodDescriptor y_Lw_register.desc).map (fun d => d.parameters.length) = some 3 := by decide +kernel
abbrev b_Lw_reckon : ByteArray := method_10_code
def y_Lw_reckon : MethodName := ⟨"FrameUnwinderLaw", "reckon", "(LFrameUnwinder;III[J)I"⟩
theorem hd_Lw_reckon : y_Lw_reckon.cls = "FrameUnwinderLaw" ∧ y_Lw_reckon.cls ≠ "java/lang/invoke/MethodHandle" ∧ y_Lw_reckon.cls ≠ "java/lang/invoke/VarHandle" ∧ (parseMethodDescriptor y_Lw_reckon.desc).map (fun d => d.parameters.length) = some 5 := by decide +kernel
abbrev b_Lw_unwind : ByteArray := method_11_code
def y_Lw_unwind : MethodName := ⟨"FrameUnwinderLaw", "unwind", "(LFrameUnwinder;I[J)I"⟩
theorem hd_Lw_unwind : y_Lw_unwind.cls = "FrameUnwinderLaw" ∧ y_Lw_unwind.cls ≠ "java/lang/invoke/MethodHandle" ∧ y_Lw_unwind.cls ≠ "java/lang/invoke/VarHandle" ∧ (parseMethodDescriptor y_Lw_unwind.desc).map (fun d => d.parameters.length) = some 3 := by decide +kernel
abbrev b_Lw_get : ByteArray := method_12_code
def y_Lw_get : MethodName := ⟨"FrameUnwinderLaw", "get", "(LFrameUnwinder;I[J)I"⟩
theorem hd_Lw_get : y_Lw_get.cls = "FrameUnwinderLaw" ∧ y_Lw_get.cls ≠ "java/lang/invoke/MethodHandle" ∧ y_Lw_get.cls ≠ "java/lang/invoke/VarHandle" ∧ (parseMethodDescriptor y_Lw_get.desc).map (fun d => d.parameters.length) = some 3 := by decide +kernel

theorem cs_Lw_7 {R rm2 : Room} (h0 : rm2.cells = 0) (h1 : rm2.slots = 0) (hR : rm2.frames + 1 ≤ R.frames ∧ 8 + (2 + 11) + rm2.locals ≤ R.locals) (s : State) (args : Array Value) (ht : ∀ w ∈ gTs, w.before args s = true) : CallW R s args "FrameUnwinderLaw" "FrameUnwinder" 7 y_Fu_feed b_Fu_feed 2 (some .int) (gW y_Fu_feed b_Fu_feed 2 (some .int)) rm2 0 0 1 :=
  cwV 1 ht (gGIV tb_399 tb_400 tb_401 tb_1 tb_402) rfl h0 h1 hd_Fu_feed hR
theorem cs_Lw_7x {R rm2 : Room} (h0 : rm2.cells = 1) (h1 : rm2.slots = 6) (hR : rm2.frames + 1 ≤ R.frames ∧ 8 + (2 + 11) + rm2.locals ≤ R.locals) (s : State) (args : Array Value) (ht : ∀ w ∈ gTs, w.before args s = true) : CallW R s args "FrameUnwinderLaw" "FrameUnwinder" 7 y_Fu_feed b_Fu_feed 2 (some .int) (gW y_Fu_feed b_Fu_feed 2 (some .int)) rm2 1 6 1 :=
  cwV 1 ht (gGIV tb_399 tb_400 tb_401 tb_1 tb_402) rfl h0 h1 hd_Fu_feed hR
theorem cs_Lw_15 {R rm2 : Room} (h0 : rm2.cells = 0) (h1 : rm2.slots = 0) (hR : rm2.frames + 1 ≤ R.frames ∧ 8 + (2 + 11) + rm2.locals ≤ R.locals) (s : State) (args : Array Value) (ht : ∀ w ∈ gTs, w.before args s = true) : CallW R s args "FrameUnwinderLaw" "FrameUnwinder" 15 y_Fu_end b_Fu_end 2 none (gW y_Fu_end b_Fu_end 2 none) rm2 0 0 1 :=
  cwV 1 ht (gGIV tb_476 tb_477 tb_478 tb_1 tb_479) rfl h0 h1 hd_Fu_end hR
theorem cs_Lw_15x {R rm2 : Room} (h0 : rm2.cells = 1) (h1 : rm2.slots = 6) (hR : rm2.frames + 1 ≤ R.frames ∧ 8 + (2 + 11) + rm2.locals ≤ R.locals) (s : State) (args : Array Value) (ht : ∀ w ∈ gTs, w.before args s = true) : CallW R s args "FrameUnwinderLaw" "FrameUnwinder" 15 y_Fu_end b_Fu_end 2 none (gW y_Fu_end b_Fu_end 2 none) rm2 1 6 1 :=
  cwV 1 ht (gGIV tb_476 tb_477 tb_478 tb_1 tb_479) rfl h0 h1 hd_Fu_end hR
theorem cs_Lw_21 {R rm2 : Room} (h0 : rm2.cells = 0) (h1 : rm2.slots = 0) (hR : rm2.frames + 1 ≤ R.frames ∧ 8 + (3 + 11) + rm2.locals ≤ R.locals) (s : State) (args : Array Value) (ht : ∀ w ∈ gTs, w.before args s = true) : CallW R s args "FrameUnwinderLaw" "FrameUnwinder" 21 y_Fu_spoil b_Fu_spoil 3 (some .int) (gW y_Fu_spoil b_Fu_spoil 3 (some .int)) rm2 0 0 2 :=
  cwV 2 ht (gGIV tb_499 tb_500 tb_501 tb_1 tb_502) rfl h0 h1 hd_Fu_spoil hR
theorem cs_Lw_21x {R rm2 : Room} (h0 : rm2.cells = 1) (h1 : rm2.slots = 6) (hR : rm2.frames + 1 ≤ R.frames ∧ 8 + (3 + 11) + rm2.locals ≤ R.locals) (s : State) (args : Array Value) (ht : ∀ w ∈ gTs, w.before args s = true) : CallW R s args "FrameUnwinderLaw" "FrameUnwinder" 21 y_Fu_spoil b_Fu_spoil 3 (some .int) (gW y_Fu_spoil b_Fu_spoil 3 (some .int)) rm2 1 6 2 :=
  cwV 2 ht (gGIV tb_499 tb_500 tb_501 tb_1 tb_502) rfl h0 h1 hd_Fu_spoil hR
theorem cs_Lw_27 {R rm2 : Room} (h0 : rm2.cells = 0) (h1 : rm2.slots = 0) (hR : rm2.frames + 1 ≤ R.frames ∧ 8 + (2 + 11) + rm2.locals ≤ R.locals) (s : State) (args : Array Value) (ht : ∀ w ∈ gTs, w.before args s = true) : CallW R s args "FrameUnwinderLaw" "FrameUnwinder" 27 y_Fu_find b_Fu_find 2 (some .int) (gW y_Fu_find b_Fu_find 2 (some .int)) rm2 0 0 1 :=
  cwV 1 ht (gGIV tb_526 tb_527 tb_528 tb_1 tb_529) rfl h0 h1 hd_Fu_find hR
theorem cs_Lw_27x {R rm2 : Room} (h0 : rm2.cells = 1) (h1 : rm2.slots = 6) (hR : rm2.frames + 1 ≤ R.frames ∧ 8 + (2 + 11) + rm2.locals ≤ R.locals) (s : State) (args : Array Value) (ht : ∀ w ∈ gTs, w.before args s = true) : CallW R s args "FrameUnwinderLaw" "FrameUnwinder" 27 y_Fu_find b_Fu_find 2 (some .int) (gW y_Fu_find b_Fu_find 2 (some .int)) rm2 1 6 1 :=
  cwV 1 ht (gGIV tb_526 tb_527 tb_528 tb_1 tb_529) rfl h0 h1 hd_Fu_find hR
theorem cs_Lw_32 {R rm2 : Room} (h0 : rm2.cells = 0) (h1 : rm2.slots = 0) (hR : rm2.frames + 1 ≤ R.frames ∧ 8 + (7 + 11) + rm2.locals ≤ R.locals) (s : State) (args : Array Value) (ht : ∀ w ∈ gTs, w.before args s = true) : CallW R s args "FrameUnwinderLaw" "FrameUnwinder" 32 y_Fu_row b_Fu_row 7 (some .int) (gW y_Fu_row b_Fu_row 7 (some .int)) rm2 0 0 3 :=
  cwV 3 ht (gGIV tb_558 tb_559 tb_560 tb_1 tb_561) rfl h0 h1 hd_Fu_row hR
theorem cs_Lw_32x {R rm2 : Room} (h0 : rm2.cells = 1) (h1 : rm2.slots = 6) (hR : rm2.frames + 1 ≤ R.frames ∧ 8 + (7 + 11) + rm2.locals ≤ R.locals) (s : State) (args : Array Value) (ht : ∀ w ∈ gTs, w.before args s = true) : CallW R s args "FrameUnwinderLaw" "FrameUnwinder" 32 y_Fu_row b_Fu_row 7 (some .int) (gW y_Fu_row b_Fu_row 7 (some .int)) rm2 1 6 3 :=
  cwV 3 ht (gGIV tb_558 tb_559 tb_560 tb_1 tb_561) rfl h0 h1 hd_Fu_row hR
theorem cs_Lw_38 {R rm2 : Room} (h0 : rm2.cells = 0) (h1 : rm2.slots = 0) (hR : rm2.frames + 1 ≤ R.frames ∧ 8 + (3 + 11) + rm2.locals ≤ R.locals) (s : State) (args : Array Value) (ht : ∀ w ∈ gTs, w.before args s = true) : CallW R s args "FrameUnwinderLaw" "FrameUnwinder" 38 y_Fu_word b_Fu_word 3 none (gW y_Fu_word b_Fu_word 3 none) rm2 0 0 2 :=
  cwV 2 ht (gGIV tb_653 tb_654 tb_655 tb_1 tb_656) rfl h0 h1 hd_Fu_word hR
theorem cs_Lw_38x {R rm2 : Room} (h0 : rm2.cells = 1) (h1 : rm2.slots = 6) (hR : rm2.frames + 1 ≤ R.frames ∧ 8 + (3 + 11) + rm2.locals ≤ R.locals) (s : State) (args : Array Value) (ht : ∀ w ∈ gTs, w.before args s = true) : CallW R s args "FrameUnwinderLaw" "FrameUnwinder" 38 y_Fu_word b_Fu_word 3 none (gW y_Fu_word b_Fu_word 3 none) rm2 1 6 2 :=
  cwV 2 ht (gGIV tb_653 tb_654 tb_655 tb_1 tb_656) rfl h0 h1 hd_Fu_word hR
theorem cs_Lw_42 {R rm2 : Room} (h0 : rm2.cells = 0) (h1 : rm2.slots = 0) (hR : rm2.frames + 1 ≤ R.frames ∧ 8 + (3 + 11) + rm2.locals ≤ R.locals) (s : State) (args : Array Value) (ht : ∀ w ∈ gTs, w.before args s = true) : CallW R s args "FrameUnwinderLaw" "FrameUnwinder" 42 y_Fu_register b_Fu_register 3 none (gW y_Fu_register b_Fu_register 3 none) rm2 0 0 2 :=
  cwV 2 ht (gGIV tb_668 tb_669 tb_670 tb_1 tb_671) rfl h0 h1 hd_Fu_register hR
theorem cs_Lw_42x {R rm2 : Room} (h0 : rm2.cells = 1) (h1 : rm2.slots = 6) (hR : rm2.frames + 1 ≤ R.frames ∧ 8 + (3 + 11) + rm2.locals ≤ R.locals) (s : State) (args : Array Value) (ht : ∀ w ∈ gTs, w.before args s = true) : CallW R s args "FrameUnwinderLaw" "FrameUnwinder" 42 y_Fu_register b_Fu_register 3 none (gW y_Fu_register b_Fu_register 3 none) rm2 1 6 2 :=
  cwV 2 ht (gGIV tb_668 tb_669 tb_670 tb_1 tb_671) rfl h0 h1 hd_Fu_register hR
theorem cs_Lw_45 {R rm2 : Room} (h0 : rm2.cells = 0) (h1 : rm2.slots = 0) (hR : rm2.frames + 1 ≤ R.frames ∧ 8 + (5 + 11) + rm2.locals ≤ R.locals) (s : State) (args : Array Value) (ht : ∀ w ∈ gTs, w.before args s = true) : CallW R s args "FrameUnwinderLaw" "FrameUnwinder" 45 y_Fu_reckon b_Fu_reckon 5 (some .int) (gW y_Fu_reckon b_Fu_reckon 5 (some .int)) rm2 0 0 3 :=
  cwV 3 ht (gGIV tb_679 tb_680 tb_681 tb_1 tb_682) rfl h0 h1 hd_Fu_reckon hR
theorem cs_Lw_45x {R rm2 : Room} (h0 : rm2.cells = 1) (h1 : rm2.slots = 6) (hR : rm2.frames + 1 ≤ R.frames ∧ 8 + (5 + 11) + rm2.locals ≤ R.locals) (s : State) (args : Array Value) (ht : ∀ w ∈ gTs, w.before args s = true) : CallW R s args "FrameUnwinderLaw" "FrameUnwinder" 45 y_Fu_reckon b_Fu_reckon 5 (some .int) (gW y_Fu_reckon b_Fu_reckon 5 (some .int)) rm2 1 6 3 :=
  cwV 3 ht (gGIV tb_679 tb_680 tb_681 tb_1 tb_682) rfl h0 h1 hd_Fu_reckon hR
theorem cs_Lw_48 {R rm2 : Room} (h0 : rm2.cells = 0) (h1 : rm2.slots = 0) (hR : rm2.frames + 1 ≤ R.frames ∧ 8 + (10 + 11) + rm2.locals ≤ R.locals) (s : State) (args : Array Value) (ht : ∀ w ∈ gTs, w.before args s = true) : CallW R s args "FrameUnwinderLaw" "FrameUnwinder" 48 y_Fu_unwind b_Fu_unwind 10 (some .int) (gW y_Fu_unwind b_Fu_unwind 10 (some .int)) rm2 0 0 1 :=
  cwV 1 ht (gGIV tb_776 tb_777 tb_778 tb_1 tb_779) rfl h0 h1 hd_Fu_unwind hR
theorem cs_Lw_48x {R rm2 : Room} (h0 : rm2.cells = 1) (h1 : rm2.slots = 6) (hR : rm2.frames + 1 ≤ R.frames ∧ 8 + (10 + 11) + rm2.locals ≤ R.locals) (s : State) (args : Array Value) (ht : ∀ w ∈ gTs, w.before args s = true) : CallW R s args "FrameUnwinderLaw" "FrameUnwinder" 48 y_Fu_unwind b_Fu_unwind 10 (some .int) (gW y_Fu_unwind b_Fu_unwind 10 (some .int)) rm2 1 6 1 :=
  cwV 1 ht (gGIV tb_776 tb_777 tb_778 tb_1 tb_779) rfl h0 h1 hd_Fu_unwind hR
theorem cs_Lw_51 {R rm2 : Room} (h0 : rm2.cells = 0) (h1 : rm2.slots = 0) (hR : rm2.frames + 1 ≤ R.frames ∧ 8 + (2 + 11) + rm2.locals ≤ R.locals) (s : State) (args : Array Value) (ht : ∀ w ∈ gTs, w.before args s = true) : CallW R s args "FrameUnwinderLaw" "FrameUnwinder" 51 y_Fu_get b_Fu_get 2 (some .int) (gW y_Fu_get b_Fu_get 2 (some .int)) rm2 0 0 1 :=
  cwV 1 ht (gGIV tb_827 tb_828 tb_829 tb_1 tb_830) rfl h0 h1 hd_Fu_get hR
theorem cs_Lw_51x {R rm2 : Room} (h0 : rm2.cells = 1) (h1 : rm2.slots = 6) (hR : rm2.frames + 1 ≤ R.frames ∧ 8 + (2 + 11) + rm2.locals ≤ R.locals) (s : State) (args : Array Value) (ht : ∀ w ∈ gTs, w.before args s = true) : CallW R s args "FrameUnwinderLaw" "FrameUnwinder" 51 y_Fu_get b_Fu_get 2 (some .int) (gW y_Fu_get b_Fu_get 2 (some .int)) rm2 1 6 1 :=
  cwV 1 ht (gGIV tb_827 tb_828 tb_829 tb_1 tb_830) rfl h0 h1 hd_Fu_get hR

