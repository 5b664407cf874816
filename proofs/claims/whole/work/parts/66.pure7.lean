/-! PURE: one instruction, class against model -/
def pOk (i op : Int32) (d : Nat) : Prop := (i = 0 ∨ ¬ (op = 1 ∨ op = 2 ∨ op = 3 ∨ op = 4 ∨ op = 6 ∨ op = 10 ∨ op = 11)) ∧ (op = 10 → d < 4) ∧ (op = 11 → 0 < d)
def pNum (op num bf : Int32) (L : Nat) : Prop := (op = 15 ∨ op = 16 ∨ op = 22 → ∃ x m : Nat, bf = nI x ∧ num = nI m ∧ x + m ≤ L) ∧ (op = 9 → ∃ j, j < 8 ∧ num = nI j)
def pEff (op : Int32) (k : Nat) (num bf cod dat : Int32) (d : Nat) (pl : Int32) (row crow kept : Nat → Int32) : Nat × Int32 × (Nat → Int32) × (Nat → Int32) :=
  if op = 0 then (d, pl, row, kept)
  else if op = 1 then (d, num, row, kept)
  else if op = 2 ∨ op = 3 ∨ op = 4 then (d, pl + num * cod, row, kept)
  else if op = 10 then (d + 1, pl, row, pKeep kept d 27 row)
  else if op = 11 then (d - 1, pl, pBack kept row (d - 1) 27, kept)
  else if op = 12 ∨ op = 13 ∨ op = 14 ∨ op = 15 ∨ op = 18 ∨ op = 19 then (d, pl, (if op = 12 then pCfa row 1 num (nI k) else if op = 13 then pCfa row 1 (if row 24 = 1 then row 25 else 0) (nI k) else if op = 14 then pCfa row 1 num (if row 24 = 1 then row 26 else 0) else if op = 18 then pCfa row 1 (num * dat) (nI k) else if op = 19 then pCfa row 1 (num * dat) (if row 24 = 1 then row 26 else 0) else pCfa row 2 bf num), kept)
  else (d, pl, (if op = 5 ∨ op = 17 then pRule row k 2 (num * dat) 0 else if op = 6 then pRule row k (crow k) (crow (8 + k)) (crow (16 + k)) else if op = 7 then pRule row k 0 0 0 else if op = 8 then pRule row k 1 0 0 else if op = 9 then pRule row k 4 num 0 else if op = 16 then pRule row k 5 bf num else if op = 20 ∨ op = 21 then pRule row k 3 (num * dat) 0 else pRule row k 6 bf num), kept)
abbrev pRt : Type := Int32 × Int32 × Int32 × Int32 × Int32 × Int32 × Int32
abbrev pMt : Type := Int32 × Int32 × Int32 × Int32 × (Nat → Int32) × (Nat → Int32)
def pIns (L a d : Nat) (i cod dat pl : Int32) (row crow kept : Nat → Int32) (R : Option pRt) (M : Option pMt) : Prop :=
  (∃ (op : Int32) (k : Nat) (num bf : Int32) (a1 d' : Nat) (pl' : Int32) (row' kept' : Nat → Int32), k < 8 ∧ a < a1 ∧ a1 ≤ L ∧ d' ≤ 4 ∧ pOk i op d ∧ pNum op num bf L ∧ R = some (1, op, nI k, num, bf, nI a1, 0) ∧ M = some (nI a1, 0, nI d', pl', row', kept') ∧ (d', pl', row', kept') = pEff op k num bf cod dat d pl row crow kept) ∨
  (∃ (ok op : Int32) (q : Int32 × Int32 × Int32 × Int32 × Int32) (t : Int32) (u : Int32 × Int32 × (Nat → Int32) × (Nat → Int32)), (ok = 0 ∨ ok = 1 ∧ ¬ pOk i op d) ∧ R = some (ok, op, q) ∧ M = some (t, 1, u))
theorem p_rl0 : pRleb 0 = f_Rd_uleb := by funext t l b bb; exact if_pos rfl
theorem p_rl1 : pRleb 1 = f_Rd_sleb := by funext t l b bb; exact if_neg (by decide)
theorem p_rule1 (row : Nat → Int32) (r x y z : Int32) : ∃ row2, f_Md_rule 1 row r x y z = some (1, row2) := by
  rcases p_in8 r with ⟨k, hk, rfl⟩ | ⟨-, h⟩
  · exact ⟨_, p_rule 1 row hk x y z⟩
  · exact ⟨_, p_ruleN 1 row h x y z⟩
theorem p_restore1 (row crow : Nat → Int32) (r : Int32) : ∃ row2, f_Md_restore 1 row crow r = some (1, row2) := by
  rcases p_in8 r with ⟨k, hk, rfl⟩ | ⟨-, h⟩
  · exact ⟨_, p_restore 1 row crow hk⟩
  · exact ⟨_, p_restoreN 1 row crow h⟩
theorem p_e0 (k : Nat) (num bf cod dat : Int32) (d : Nat) (pl : Int32) (row crow kept : Nat → Int32) : pEff (nI 0) k num bf cod dat d pl row crow kept = (d, pl, row, kept) := by
  unfold pEff
  rw [if_pos (by decide)]
theorem p_ok0 (i : Int32) (d : Nat) : pOk i (nI 0) d := ⟨Or.inr (by decide), fun h => absurd h (by decide), fun h => absurd h (by decide)⟩
theorem p_num0 (n bf : Int32) (L : Nat) : pNum (nI 0) n bf L := ⟨fun h => absurd h (by decide), fun h => absurd h (by decide)⟩
theorem p_e1 (k : Nat) (num bf cod dat : Int32) (d : Nat) (pl : Int32) (row crow kept : Nat → Int32) : pEff (nI 1) k num bf cod dat d pl row crow kept = (d, num, row, kept) := by
  unfold pEff
  rw [if_neg (by decide), if_pos (by decide)]
theorem p_ok1 {i : Int32} (hi : i = 0) {d : Nat} (h : True) : pOk i (nI 1) d := ⟨Or.inl hi, fun h => absurd h (by decide), fun h => absurd h (by decide)⟩
theorem p_no1 {i : Int32} (hi : ¬ i = 0) (d : Nat) : ¬ pOk i (nI 1) d := fun h => by
  rcases h.1 with z | z
  · exact hi z
  · exact z (by decide)
theorem p_num1 (n bf : Int32) (L : Nat) : pNum (nI 1) n bf L := ⟨fun h => absurd h (by decide), fun h => absurd h (by decide)⟩
theorem p_e2 (k : Nat) (num bf cod dat : Int32) (d : Nat) (pl : Int32) (row crow kept : Nat → Int32) : pEff (nI 2) k num bf cod dat d pl row crow kept = (d, pl + num * cod, row, kept) := by
  unfold pEff
  rw [if_neg (by decide), if_neg (by decide), if_pos (by decide)]
theorem p_ok2 {i : Int32} (hi : i = 0) {d : Nat} (h : True) : pOk i (nI 2) d := ⟨Or.inl hi, fun h => absurd h (by decide), fun h => absurd h (by decide)⟩
theorem p_no2 {i : Int32} (hi : ¬ i = 0) (d : Nat) : ¬ pOk i (nI 2) d := fun h => by
  rcases h.1 with z | z
  · exact hi z
  · exact z (by decide)
theorem p_num2 (n bf : Int32) (L : Nat) : pNum (nI 2) n bf L := ⟨fun h => absurd h (by decide), fun h => absurd h (by decide)⟩
theorem p_e3 (k : Nat) (num bf cod dat : Int32) (d : Nat) (pl : Int32) (row crow kept : Nat → Int32) : pEff (nI 3) k num bf cod dat d pl row crow kept = (d, pl + num * cod, row, kept) := by
  unfold pEff
  rw [if_neg (by decide), if_neg (by decide), if_pos (by decide)]
theorem p_ok3 {i : Int32} (hi : i = 0) {d : Nat} (h : True) : pOk i (nI 3) d := ⟨Or.inl hi, fun h => absurd h (by decide), fun h => absurd h (by decide)⟩
theorem p_no3 {i : Int32} (hi : ¬ i = 0) (d : Nat) : ¬ pOk i (nI 3) d := fun h => by
  rcases h.1 with z | z
  · exact hi z
  · exact z (by decide)
theorem p_num3 (n bf : Int32) (L : Nat) : pNum (nI 3) n bf L := ⟨fun h => absurd h (by decide), fun h => absurd h (by decide)⟩
theorem p_e4 (k : Nat) (num bf cod dat : Int32) (d : Nat) (pl : Int32) (row crow kept : Nat → Int32) : pEff (nI 4) k num bf cod dat d pl row crow kept = (d, pl + num * cod, row, kept) := by
  unfold pEff
  rw [if_neg (by decide), if_neg (by decide), if_pos (by decide)]
theorem p_ok4 {i : Int32} (hi : i = 0) {d : Nat} (h : True) : pOk i (nI 4) d := ⟨Or.inl hi, fun h => absurd h (by decide), fun h => absurd h (by decide)⟩
theorem p_no4 {i : Int32} (hi : ¬ i = 0) (d : Nat) : ¬ pOk i (nI 4) d := fun h => by
  rcases h.1 with z | z
  · exact hi z
  · exact z (by decide)
theorem p_num4 (n bf : Int32) (L : Nat) : pNum (nI 4) n bf L := ⟨fun h => absurd h (by decide), fun h => absurd h (by decide)⟩
theorem p_e5 (k : Nat) (num bf cod dat : Int32) (d : Nat) (pl : Int32) (row crow kept : Nat → Int32) : pEff (nI 5) k num bf cod dat d pl row crow kept = (d, pl, pRule row k 2 (num * dat) 0, kept) := by
  unfold pEff
  rw [if_neg (by decide), if_neg (by decide), if_neg (by decide), if_neg (by decide), if_neg (by decide), if_neg (by decide), if_pos (by decide)]
theorem p_ok5 (i : Int32) (d : Nat) : pOk i (nI 5) d := ⟨Or.inr (by decide), fun h => absurd h (by decide), fun h => absurd h (by decide)⟩
theorem p_num5 (n bf : Int32) (L : Nat) : pNum (nI 5) n bf L := ⟨fun h => absurd h (by decide), fun h => absurd h (by decide)⟩
theorem p_e6 (k : Nat) (num bf cod dat : Int32) (d : Nat) (pl : Int32) (row crow kept : Nat → Int32) : pEff (nI 6) k num bf cod dat d pl row crow kept = (d, pl, pRule row k (crow k) (crow (8 + k)) (crow (16 + k)), kept) := by
  unfold pEff
  rw [if_neg (by decide), if_neg (by decide), if_neg (by decide), if_neg (by decide), if_neg (by decide), if_neg (by decide), if_neg (by decide), if_pos (by decide)]
theorem p_ok6 {i : Int32} (hi : i = 0) {d : Nat} (h : True) : pOk i (nI 6) d := ⟨Or.inl hi, fun h => absurd h (by decide), fun h => absurd h (by decide)⟩
theorem p_no6 {i : Int32} (hi : ¬ i = 0) (d : Nat) : ¬ pOk i (nI 6) d := fun h => by
  rcases h.1 with z | z
  · exact hi z
  · exact z (by decide)
theorem p_num6 (n bf : Int32) (L : Nat) : pNum (nI 6) n bf L := ⟨fun h => absurd h (by decide), fun h => absurd h (by decide)⟩
theorem p_e7 (k : Nat) (num bf cod dat : Int32) (d : Nat) (pl : Int32) (row crow kept : Nat → Int32) : pEff (nI 7) k num bf cod dat d pl row crow kept = (d, pl, pRule row k 0 0 0, kept) := by
  unfold pEff
  rw [if_neg (by decide), if_neg (by decide), if_neg (by decide), if_neg (by decide), if_neg (by decide), if_neg (by decide), if_neg (by decide), if_neg (by decide), if_pos (by decide)]
theorem p_ok7 (i : Int32) (d : Nat) : pOk i (nI 7) d := ⟨Or.inr (by decide), fun h => absurd h (by decide), fun h => absurd h (by decide)⟩
theorem p_num7 (n bf : Int32) (L : Nat) : pNum (nI 7) n bf L := ⟨fun h => absurd h (by decide), fun h => absurd h (by decide)⟩
theorem p_e8 (k : Nat) (num bf cod dat : Int32) (d : Nat) (pl : Int32) (row crow kept : Nat → Int32) : pEff (nI 8) k num bf cod dat d pl row crow kept = (d, pl, pRule row k 1 0 0, kept) := by
  unfold pEff
  rw [if_neg (by decide), if_neg (by decide), if_neg (by decide), if_neg (by decide), if_neg (by decide), if_neg (by decide), if_neg (by decide), if_neg (by decide), if_neg (by decide), if_pos (by decide)]
theorem p_ok8 (i : Int32) (d : Nat) : pOk i (nI 8) d := ⟨Or.inr (by decide), fun h => absurd h (by decide), fun h => absurd h (by decide)⟩
theorem p_num8 (n bf : Int32) (L : Nat) : pNum (nI 8) n bf L := ⟨fun h => absurd h (by decide), fun h => absurd h (by decide)⟩
theorem p_e9 (k : Nat) (num bf cod dat : Int32) (d : Nat) (pl : Int32) (row crow kept : Nat → Int32) : pEff (nI 9) k num bf cod dat d pl row crow kept = (d, pl, pRule row k 4 num 0, kept) := by
  unfold pEff
  rw [if_neg (by decide), if_neg (by decide), if_neg (by decide), if_neg (by decide), if_neg (by decide), if_neg (by decide), if_neg (by decide), if_neg (by decide), if_neg (by decide), if_neg (by decide), if_pos (by decide)]
theorem p_ok9 (i : Int32) (d : Nat) : pOk i (nI 9) d := ⟨Or.inr (by decide), fun h => absurd h (by decide), fun h => absurd h (by decide)⟩
theorem p_num9 {j : Nat} (h : j < 8) (bf : Int32) (L : Nat) : pNum (nI 9) (nI j) bf L := ⟨fun h => absurd h (by decide), fun _ => ⟨j, h, rfl⟩⟩
theorem p_e10 (k : Nat) (num bf cod dat : Int32) (d : Nat) (pl : Int32) (row crow kept : Nat → Int32) : pEff (nI 10) k num bf cod dat d pl row crow kept = (d + 1, pl, row, pKeep kept d 27 row) := by
  unfold pEff
  rw [if_neg (by decide), if_neg (by decide), if_neg (by decide), if_pos (by decide)]
theorem p_ok10 {i : Int32} (hi : i = 0) {d : Nat} (h : d < 4) : pOk i (nI 10) d := ⟨Or.inl hi, fun _ => h, fun h => absurd h (by decide)⟩
theorem p_no10 {i : Int32} (hi : ¬ i = 0) (d : Nat) : ¬ pOk i (nI 10) d := fun h => by
  rcases h.1 with z | z
  · exact hi z
  · exact z (by decide)
theorem p_num10 (n bf : Int32) (L : Nat) : pNum (nI 10) n bf L := ⟨fun h => absurd h (by decide), fun h => absurd h (by decide)⟩
theorem p_e11 (k : Nat) (num bf cod dat : Int32) (d : Nat) (pl : Int32) (row crow kept : Nat → Int32) : pEff (nI 11) k num bf cod dat d pl row crow kept = (d - 1, pl, pBack kept row (d - 1) 27, kept) := by
  unfold pEff
  rw [if_neg (by decide), if_neg (by decide), if_neg (by decide), if_neg (by decide), if_pos (by decide)]
theorem p_ok11 {i : Int32} (hi : i = 0) {d : Nat} (h : 0 < d) : pOk i (nI 11) d := ⟨Or.inl hi, fun h => absurd h (by decide), fun _ => h⟩
theorem p_no11 {i : Int32} (hi : ¬ i = 0) (d : Nat) : ¬ pOk i (nI 11) d := fun h => by
  rcases h.1 with z | z
  · exact hi z
  · exact z (by decide)
theorem p_num11 (n bf : Int32) (L : Nat) : pNum (nI 11) n bf L := ⟨fun h => absurd h (by decide), fun h => absurd h (by decide)⟩
theorem p_e12 (k : Nat) (num bf cod dat : Int32) (d : Nat) (pl : Int32) (row crow kept : Nat → Int32) : pEff (nI 12) k num bf cod dat d pl row crow kept = (d, pl, pCfa row 1 num (nI k), kept) := by
  unfold pEff
  rw [if_neg (by decide), if_neg (by decide), if_neg (by decide), if_neg (by decide), if_neg (by decide), if_pos (by decide), if_pos (by decide)]
theorem p_ok12 (i : Int32) (d : Nat) : pOk i (nI 12) d := ⟨Or.inr (by decide), fun h => absurd h (by decide), fun h => absurd h (by decide)⟩
theorem p_num12 (n bf : Int32) (L : Nat) : pNum (nI 12) n bf L := ⟨fun h => absurd h (by decide), fun h => absurd h (by decide)⟩
theorem p_e13 (k : Nat) (num bf cod dat : Int32) (d : Nat) (pl : Int32) (row crow kept : Nat → Int32) : pEff (nI 13) k num bf cod dat d pl row crow kept = (d, pl, pCfa row 1 (if row 24 = 1 then row 25 else 0) (nI k), kept) := by
  unfold pEff
  rw [if_neg (by decide), if_neg (by decide), if_neg (by decide), if_neg (by decide), if_neg (by decide), if_pos (by decide), if_neg (by decide), if_pos (by decide)]
theorem p_ok13 (i : Int32) (d : Nat) : pOk i (nI 13) d := ⟨Or.inr (by decide), fun h => absurd h (by decide), fun h => absurd h (by decide)⟩
theorem p_num13 (n bf : Int32) (L : Nat) : pNum (nI 13) n bf L := ⟨fun h => absurd h (by decide), fun h => absurd h (by decide)⟩
theorem p_e14 (k : Nat) (num bf cod dat : Int32) (d : Nat) (pl : Int32) (row crow kept : Nat → Int32) : pEff (nI 14) k num bf cod dat d pl row crow kept = (d, pl, pCfa row 1 num (if row 24 = 1 then row 26 else 0), kept) := by
  unfold pEff
  rw [if_neg (by decide), if_neg (by decide), if_neg (by decide), if_neg (by decide), if_neg (by decide), if_pos (by decide), if_neg (by decide), if_neg (by decide), if_pos (by decide)]
theorem p_ok14 (i : Int32) (d : Nat) : pOk i (nI 14) d := ⟨Or.inr (by decide), fun h => absurd h (by decide), fun h => absurd h (by decide)⟩
theorem p_num14 (n bf : Int32) (L : Nat) : pNum (nI 14) n bf L := ⟨fun h => absurd h (by decide), fun h => absurd h (by decide)⟩
theorem p_e15 (k : Nat) (num bf cod dat : Int32) (d : Nat) (pl : Int32) (row crow kept : Nat → Int32) : pEff (nI 15) k num bf cod dat d pl row crow kept = (d, pl, pCfa row 2 bf num, kept) := by
  unfold pEff
  rw [if_neg (by decide), if_neg (by decide), if_neg (by decide), if_neg (by decide), if_neg (by decide), if_pos (by decide), if_neg (by decide), if_neg (by decide), if_neg (by decide), if_neg (by decide), if_neg (by decide)]
theorem p_ok15 (i : Int32) (d : Nat) : pOk i (nI 15) d := ⟨Or.inr (by decide), fun h => absurd h (by decide), fun h => absurd h (by decide)⟩
theorem p_num15 {x m L : Nat} (h : x + m ≤ L) : pNum (nI 15) (nI m) (nI x) L := ⟨fun _ => ⟨x, m, rfl, rfl, h⟩, fun h => absurd h (by decide)⟩
theorem p_e16 (k : Nat) (num bf cod dat : Int32) (d : Nat) (pl : Int32) (row crow kept : Nat → Int32) : pEff (nI 16) k num bf cod dat d pl row crow kept = (d, pl, pRule row k 5 bf num, kept) := by
  unfold pEff
  rw [if_neg (by decide), if_neg (by decide), if_neg (by decide), if_neg (by decide), if_neg (by decide), if_neg (by decide), if_neg (by decide), if_neg (by decide), if_neg (by decide), if_neg (by decide), if_neg (by decide), if_pos (by decide)]
theorem p_ok16 (i : Int32) (d : Nat) : pOk i (nI 16) d := ⟨Or.inr (by decide), fun h => absurd h (by decide), fun h => absurd h (by decide)⟩
theorem p_num16 {x m L : Nat} (h : x + m ≤ L) : pNum (nI 16) (nI m) (nI x) L := ⟨fun _ => ⟨x, m, rfl, rfl, h⟩, fun h => absurd h (by decide)⟩
theorem p_e17 (k : Nat) (num bf cod dat : Int32) (d : Nat) (pl : Int32) (row crow kept : Nat → Int32) : pEff (nI 17) k num bf cod dat d pl row crow kept = (d, pl, pRule row k 2 (num * dat) 0, kept) := by
  unfold pEff
  rw [if_neg (by decide), if_neg (by decide), if_neg (by decide), if_neg (by decide), if_neg (by decide), if_neg (by decide), if_pos (by decide)]
theorem p_ok17 (i : Int32) (d : Nat) : pOk i (nI 17) d := ⟨Or.inr (by decide), fun h => absurd h (by decide), fun h => absurd h (by decide)⟩
theorem p_num17 (n bf : Int32) (L : Nat) : pNum (nI 17) n bf L := ⟨fun h => absurd h (by decide), fun h => absurd h (by decide)⟩
theorem p_e18 (k : Nat) (num bf cod dat : Int32) (d : Nat) (pl : Int32) (row crow kept : Nat → Int32) : pEff (nI 18) k num bf cod dat d pl row crow kept = (d, pl, pCfa row 1 (num * dat) (nI k), kept) := by
  unfold pEff
  rw [if_neg (by decide), if_neg (by decide), if_neg (by decide), if_neg (by decide), if_neg (by decide), if_pos (by decide), if_neg (by decide), if_neg (by decide), if_neg (by decide), if_pos (by decide)]
theorem p_ok18 (i : Int32) (d : Nat) : pOk i (nI 18) d := ⟨Or.inr (by decide), fun h => absurd h (by decide), fun h => absurd h (by decide)⟩
theorem p_num18 (n bf : Int32) (L : Nat) : pNum (nI 18) n bf L := ⟨fun h => absurd h (by decide), fun h => absurd h (by decide)⟩
theorem p_e19 (k : Nat) (num bf cod dat : Int32) (d : Nat) (pl : Int32) (row crow kept : Nat → Int32) : pEff (nI 19) k num bf cod dat d pl row crow kept = (d, pl, pCfa row 1 (num * dat) (if row 24 = 1 then row 26 else 0), kept) := by
  unfold pEff
  rw [if_neg (by decide), if_neg (by decide), if_neg (by decide), if_neg (by decide), if_neg (by decide), if_pos (by decide), if_neg (by decide), if_neg (by decide), if_neg (by decide), if_neg (by decide), if_pos (by decide)]
theorem p_ok19 (i : Int32) (d : Nat) : pOk i (nI 19) d := ⟨Or.inr (by decide), fun h => absurd h (by decide), fun h => absurd h (by decide)⟩
theorem p_num19 (n bf : Int32) (L : Nat) : pNum (nI 19) n bf L := ⟨fun h => absurd h (by decide), fun h => absurd h (by decide)⟩
theorem p_e20 (k : Nat) (num bf cod dat : Int32) (d : Nat) (pl : Int32) (row crow kept : Nat → Int32) : pEff (nI 20) k num bf cod dat d pl row crow kept = (d, pl, pRule row k 3 (num * dat) 0, kept) := by
  unfold pEff
  rw [if_neg (by decide), if_neg (by decide), if_neg (by decide), if_neg (by decide), if_neg (by decide), if_neg (by decide), if_neg (by decide), if_neg (by decide), if_neg (by decide), if_neg (by decide), if_neg (by decide), if_neg (by decide), if_pos (by decide)]
theorem p_ok20 (i : Int32) (d : Nat) : pOk i (nI 20) d := ⟨Or.inr (by decide), fun h => absurd h (by decide), fun h => absurd h (by decide)⟩
theorem p_num20 (n bf : Int32) (L : Nat) : pNum (nI 20) n bf L := ⟨fun h => absurd h (by decide), fun h => absurd h (by decide)⟩
theorem p_e21 (k : Nat) (num bf cod dat : Int32) (d : Nat) (pl : Int32) (row crow kept : Nat → Int32) : pEff (nI 21) k num bf cod dat d pl row crow kept = (d, pl, pRule row k 3 (num * dat) 0, kept) := by
  unfold pEff
  rw [if_neg (by decide), if_neg (by decide), if_neg (by decide), if_neg (by decide), if_neg (by decide), if_neg (by decide), if_neg (by decide), if_neg (by decide), if_neg (by decide), if_neg (by decide), if_neg (by decide), if_neg (by decide), if_pos (by decide)]
theorem p_ok21 (i : Int32) (d : Nat) : pOk i (nI 21) d := ⟨Or.inr (by decide), fun h => absurd h (by decide), fun h => absurd h (by decide)⟩
theorem p_num21 (n bf : Int32) (L : Nat) : pNum (nI 21) n bf L := ⟨fun h => absurd h (by decide), fun h => absurd h (by decide)⟩
theorem p_e22 (k : Nat) (num bf cod dat : Int32) (d : Nat) (pl : Int32) (row crow kept : Nat → Int32) : pEff (nI 22) k num bf cod dat d pl row crow kept = (d, pl, pRule row k 6 bf num, kept) := by
  unfold pEff
  rw [if_neg (by decide), if_neg (by decide), if_neg (by decide), if_neg (by decide), if_neg (by decide), if_neg (by decide), if_neg (by decide), if_neg (by decide), if_neg (by decide), if_neg (by decide), if_neg (by decide), if_neg (by decide), if_neg (by decide)]
theorem p_ok22 (i : Int32) (d : Nat) : pOk i (nI 22) d := ⟨Or.inr (by decide), fun h => absurd h (by decide), fun h => absurd h (by decide)⟩
theorem p_num22 {x m L : Nat} (h : x + m ≤ L) : pNum (nI 22) (nI m) (nI x) L := ⟨fun _ => ⟨x, m, rfl, rfl, h⟩, fun h => absurd h (by decide)⟩
theorem p_I0 {mb bb : Nat → Int32} (hB : pB mb bb) {a L e c d : Nat} (ha : a < L) (hL : L ≤ 512) (he : e < 16) (hc : c < 16) (hd : d ≤ 4) (pl : Int32) (isC common code data row crow kept : Nat → Int32) (hce : common e = nI c) (o0 r0 n0 b0 : Int32) (hb : mb a = nI 0) : pIns L a d (isC e) (code c) (data c) pl row crow kept (f_In_readFrom o0 r0 n0 b0 (nI a) (nI L) 0 bb) (f_Md_instruction (nI a) (nI L) 0 (nI d) pl mb isC common code data row crow kept (nI e)) := by
  rw [p_RF hB ha hL (k := 0) (by omega) hb, p_Ro0, p_M0 ha hL he hc (nI d) pl mb isC common code data row crow kept hce hb, Option.bind_some]
  exact Or.inl ⟨nI 0, 0, 0, 0, a + 1, d, pl, row, kept, by omega, by omega, by omega, hd, p_ok0 _ _, p_num0 _ _ _, p_fin (k := 0) (by omega) _ _ _ _ _ _, rfl, (p_e0 _ _ _ _ _ _ _ _ _ _).symm⟩
theorem p_I1 {mb bb : Nat → Int32} (hB : pB mb bb) {a L e c d : Nat} (ha : a < L) (hL : L ≤ 512) (he : e < 16) (hc : c < 16) (hd : d ≤ 4) (pl : Int32) (isC common code data row crow kept : Nat → Int32) (hce : common e = nI c) (o0 r0 n0 b0 : Int32) (hb : mb a = nI 1) : pIns L a d (isC e) (code c) (data c) pl row crow kept (f_In_readFrom o0 r0 n0 b0 (nI a) (nI L) 0 bb) (f_Md_instruction (nI a) (nI L) 0 (nI d) pl mb isC common code data row crow kept (nI e)) := by
  rw [p_RF hB ha hL (k := 1) (by omega) hb, p_Ro1, p_M1 ha hL he hc (nI d) pl mb isC common code data row crow kept hce hb]
  have hu : f_Rd_unsigned (nI (a + 1)) (nI L) 0 bb 4 = f_Md_unsigned (nI (a + 1)) (nI L) 0 mb 4 := p_uns hB (c := 4) (show a + 1 ≤ L by omega) hL (by omega)
  have hm : ∀ b : Int32, f_Md_unsigned (nI (a + 1)) (nI L) b mb 4 = if a + 1 + 4 ≤ L then some (pU mb (a + 1) 4, nI (a + 1 + 4), b) else some (0, nI (a + 1), 1) := fun b => p_Muns mb (c := 4) b (show a + 1 ≤ L by omega) hL (by omega)
  rw [hu, hm, hm]
  by_cases hl : a + 1 + 4 ≤ L
  · rw [if_pos hl, if_pos hl, Option.bind_some, Option.bind_some, Option.bind_some]
    dsimp only
    have hf := p_fin (k := 0) (by omega) (nI 1) (pU mb (a + 1) 4) 0 (nI (a + 1 + 4)) (nI L) bb
    by_cases hi : isC e = 0
    · rw [if_pos hi]
      exact Or.inl ⟨nI 1, 0, _, 0, a + 1 + 4, d, _, row, kept, by omega, by omega, hl, hd, p_ok1 hi trivial, p_num1 _ _ _, hf, rfl, (p_e1 _ _ _ _ _ _ _ _ _ _).symm⟩
    · rw [if_neg hi]
      exact Or.inr ⟨1, nI 1, _, _, _, Or.inr ⟨rfl, p_no1 hi d⟩, hf, rfl⟩
  · rw [if_neg hl, if_neg hl, Option.bind_some, Option.bind_some, Option.bind_some]
    exact Or.inr ⟨0, nI 1, _, _, _, Or.inl rfl, p_finB _ _ _ _ _ _ _, rfl⟩
theorem p_I2 {mb bb : Nat → Int32} (hB : pB mb bb) {a L e c d : Nat} (ha : a < L) (hL : L ≤ 512) (he : e < 16) (hc : c < 16) (hd : d ≤ 4) (pl : Int32) (isC common code data row crow kept : Nat → Int32) (hce : common e = nI c) (o0 r0 n0 b0 : Int32) (hb : mb a = nI 2) : pIns L a d (isC e) (code c) (data c) pl row crow kept (f_In_readFrom o0 r0 n0 b0 (nI a) (nI L) 0 bb) (f_Md_instruction (nI a) (nI L) 0 (nI d) pl mb isC common code data row crow kept (nI e)) := by
  rw [p_RF hB ha hL (k := 2) (by omega) hb, p_Ro2, p_M2 ha hL he hc (nI d) pl mb isC common code data row crow kept hce hb]
  have hu : f_Rd_unsigned (nI (a + 1)) (nI L) 0 bb 1 = f_Md_unsigned (nI (a + 1)) (nI L) 0 mb 1 := p_uns hB (c := 1) (show a + 1 ≤ L by omega) hL (by omega)
  have hm : ∀ b : Int32, f_Md_unsigned (nI (a + 1)) (nI L) b mb 1 = if a + 1 + 1 ≤ L then some (pU mb (a + 1) 1, nI (a + 1 + 1), b) else some (0, nI (a + 1), 1) := fun b => p_Muns mb (c := 1) b (show a + 1 ≤ L by omega) hL (by omega)
  rw [hu, hm, hm]
  by_cases hl : a + 1 + 1 ≤ L
  · rw [if_pos hl, if_pos hl, Option.bind_some, Option.bind_some, Option.bind_some]
    dsimp only
    have hf := p_fin (k := 0) (by omega) (nI 2) (pU mb (a + 1) 1) 0 (nI (a + 1 + 1)) (nI L) bb
    by_cases hi : isC e = 0
    · rw [if_pos hi]
      exact Or.inl ⟨nI 2, 0, _, 0, a + 1 + 1, d, _, row, kept, by omega, by omega, hl, hd, p_ok2 hi trivial, p_num2 _ _ _, hf, rfl, (p_e2 _ _ _ _ _ _ _ _ _ _).symm⟩
    · rw [if_neg hi]
      exact Or.inr ⟨1, nI 2, _, _, _, Or.inr ⟨rfl, p_no2 hi d⟩, hf, rfl⟩
  · rw [if_neg hl, if_neg hl, Option.bind_some, Option.bind_some, Option.bind_some]
    exact Or.inr ⟨0, nI 2, _, _, _, Or.inl rfl, p_finB _ _ _ _ _ _ _, rfl⟩
theorem p_I3 {mb bb : Nat → Int32} (hB : pB mb bb) {a L e c d : Nat} (ha : a < L) (hL : L ≤ 512) (he : e < 16) (hc : c < 16) (hd : d ≤ 4) (pl : Int32) (isC common code data row crow kept : Nat → Int32) (hce : common e = nI c) (o0 r0 n0 b0 : Int32) (hb : mb a = nI 3) : pIns L a d (isC e) (code c) (data c) pl row crow kept (f_In_readFrom o0 r0 n0 b0 (nI a) (nI L) 0 bb) (f_Md_instruction (nI a) (nI L) 0 (nI d) pl mb isC common code data row crow kept (nI e)) := by
  rw [p_RF hB ha hL (k := 3) (by omega) hb, p_Ro3, p_M3 ha hL he hc (nI d) pl mb isC common code data row crow kept hce hb]
  have hu : f_Rd_unsigned (nI (a + 1)) (nI L) 0 bb 2 = f_Md_unsigned (nI (a + 1)) (nI L) 0 mb 2 := p_uns hB (c := 2) (show a + 1 ≤ L by omega) hL (by omega)
  have hm : ∀ b : Int32, f_Md_unsigned (nI (a + 1)) (nI L) b mb 2 = if a + 1 + 2 ≤ L then some (pU mb (a + 1) 2, nI (a + 1 + 2), b) else some (0, nI (a + 1), 1) := fun b => p_Muns mb (c := 2) b (show a + 1 ≤ L by omega) hL (by omega)
  rw [hu, hm, hm]
  by_cases hl : a + 1 + 2 ≤ L
  · rw [if_pos hl, if_pos hl, Option.bind_some, Option.bind_some, Option.bind_some]
    dsimp only
    have hf := p_fin (k := 0) (by omega) (nI 3) (pU mb (a + 1) 2) 0 (nI (a + 1 + 2)) (nI L) bb
    by_cases hi : isC e = 0
    · rw [if_pos hi]
      exact Or.inl ⟨nI 3, 0, _, 0, a + 1 + 2, d, _, row, kept, by omega, by omega, hl, hd, p_ok3 hi trivial, p_num3 _ _ _, hf, rfl, (p_e3 _ _ _ _ _ _ _ _ _ _).symm⟩
    · rw [if_neg hi]
      exact Or.inr ⟨1, nI 3, _, _, _, Or.inr ⟨rfl, p_no3 hi d⟩, hf, rfl⟩
  · rw [if_neg hl, if_neg hl, Option.bind_some, Option.bind_some, Option.bind_some]
    exact Or.inr ⟨0, nI 3, _, _, _, Or.inl rfl, p_finB _ _ _ _ _ _ _, rfl⟩
theorem p_I4 {mb bb : Nat → Int32} (hB : pB mb bb) {a L e c d : Nat} (ha : a < L) (hL : L ≤ 512) (he : e < 16) (hc : c < 16) (hd : d ≤ 4) (pl : Int32) (isC common code data row crow kept : Nat → Int32) (hce : common e = nI c) (o0 r0 n0 b0 : Int32) (hb : mb a = nI 4) : pIns L a d (isC e) (code c) (data c) pl row crow kept (f_In_readFrom o0 r0 n0 b0 (nI a) (nI L) 0 bb) (f_Md_instruction (nI a) (nI L) 0 (nI d) pl mb isC common code data row crow kept (nI e)) := by
  rw [p_RF hB ha hL (k := 4) (by omega) hb, p_Ro4, p_M4 ha hL he hc (nI d) pl mb isC common code data row crow kept hce hb]
  have hu : f_Rd_unsigned (nI (a + 1)) (nI L) 0 bb 4 = f_Md_unsigned (nI (a + 1)) (nI L) 0 mb 4 := p_uns hB (c := 4) (show a + 1 ≤ L by omega) hL (by omega)
  have hm : ∀ b : Int32, f_Md_unsigned (nI (a + 1)) (nI L) b mb 4 = if a + 1 + 4 ≤ L then some (pU mb (a + 1) 4, nI (a + 1 + 4), b) else some (0, nI (a + 1), 1) := fun b => p_Muns mb (c := 4) b (show a + 1 ≤ L by omega) hL (by omega)
  rw [hu, hm, hm]
  by_cases hl : a + 1 + 4 ≤ L
  · rw [if_pos hl, if_pos hl, Option.bind_some, Option.bind_some, Option.bind_some]
    dsimp only
    have hf := p_fin (k := 0) (by omega) (nI 4) (pU mb (a + 1) 4) 0 (nI (a + 1 + 4)) (nI L) bb
    by_cases hi : isC e = 0
    · rw [if_pos hi]
      exact Or.inl ⟨nI 4, 0, _, 0, a + 1 + 4, d, _, row, kept, by omega, by omega, hl, hd, p_ok4 hi trivial, p_num4 _ _ _, hf, rfl, (p_e4 _ _ _ _ _ _ _ _ _ _).symm⟩
    · rw [if_neg hi]
      exact Or.inr ⟨1, nI 4, _, _, _, Or.inr ⟨rfl, p_no4 hi d⟩, hf, rfl⟩
  · rw [if_neg hl, if_neg hl, Option.bind_some, Option.bind_some, Option.bind_some]
    exact Or.inr ⟨0, nI 4, _, _, _, Or.inl rfl, p_finB _ _ _ _ _ _ _, rfl⟩
theorem p_I5 {mb bb : Nat → Int32} (hB : pB mb bb) {a L e c d : Nat} (ha : a < L) (hL : L ≤ 512) (he : e < 16) (hc : c < 16) (hd : d ≤ 4) (pl : Int32) (isC common code data row crow kept : Nat → Int32) (hce : common e = nI c) (o0 r0 n0 b0 : Int32) (hb : mb a = nI 5) : pIns L a d (isC e) (code c) (data c) pl row crow kept (f_In_readFrom o0 r0 n0 b0 (nI a) (nI L) 0 bb) (f_Md_instruction (nI a) (nI L) 0 (nI d) pl mb isC common code data row crow kept (nI e)) := by
  rw [p_RF hB ha hL (k := 5) (by omega) hb, p_Ro5, p_M5 ha hL he hc (nI d) pl mb isC common code data row crow kept hce hb, p_MR5]
  have hA := p_A (β := Int32 × Int32 × (Nat → Int32)) hB (show a + 1 ≤ L by omega) hL (nI 5) 0 (g := 0) (by decide)
  rw [p_rl0] at hA
  rcases hA with ⟨k, n, a1, x, y, hk, l1, l2, hR, hK⟩ | ⟨r, n, b, a1, a2, w, r2, x, y, l1, l2, l3, l4, hR, hK⟩
  · rw [hR, hK (fun u q => ((f_Md_rule u.2.2 row q.1 2 (u.1 * data c) 0).bind fun v => some (u.2.1, v.1, v.2)))]
    dsimp only
    rw [p_rule _ _ hk, Option.bind_some, Option.bind_some]
    exact Or.inl ⟨nI 5, k, n, 0, a1, d, pl, _, kept, hk, by omega, l2, hd, p_ok5 _ _, p_num5 _ _ _, rfl, rfl, (p_e5 _ _ _ _ _ _ _ _ _ _).symm⟩
  · rw [hR, hK (fun u q => ((f_Md_rule u.2.2 row q.1 2 (u.1 * data c) 0).bind fun v => some (u.2.1, v.1, v.2)))]
    obtain ⟨row2, hw⟩ := p_rule1 row r2 2 (w * data c) 0
    dsimp only
    rw [hw, Option.bind_some, Option.bind_some]
    exact Or.inr ⟨0, nI 5, _, _, _, Or.inl rfl, rfl, rfl⟩
theorem p_I6 {mb bb : Nat → Int32} (hB : pB mb bb) {a L e c d : Nat} (ha : a < L) (hL : L ≤ 512) (he : e < 16) (hc : c < 16) (hd : d ≤ 4) (pl : Int32) (isC common code data row crow kept : Nat → Int32) (hce : common e = nI c) (o0 r0 n0 b0 : Int32) (hb : mb a = nI 6) : pIns L a d (isC e) (code c) (data c) pl row crow kept (f_In_readFrom o0 r0 n0 b0 (nI a) (nI L) 0 bb) (f_Md_instruction (nI a) (nI L) 0 (nI d) pl mb isC common code data row crow kept (nI e)) := by
  rw [p_RF hB ha hL (k := 6) (by omega) hb, p_Ro6, p_M6 ha hL he hc (nI d) pl mb isC common code data row crow kept hce hb]
  rcases p_Bf hB (show a + 1 ≤ L by omega) hL (nI 6) 0 0 with ⟨k, a1, hk, l1, l2, hR, hM⟩ | ⟨r, b, a1, l1, l2, hR, hM⟩
  · by_cases hi : isC e = 0
    · rw [hR, if_pos hi, hM, Option.bind_some]
      dsimp only
      rw [p_restore _ _ _ hk, Option.bind_some]
      exact Or.inl ⟨nI 6, k, 0, 0, a1, d, pl, _, kept, hk, by omega, l2, hd, p_ok6 hi trivial, p_num6 _ _ _, rfl, rfl, (p_e6 _ _ _ _ _ _ _ _ _ _).symm⟩
    · obtain ⟨w3, a3, e1, e2, e3⟩ := p_Mleb1 mb (show a + 1 ≤ L by omega) hL 0
      obtain ⟨row2, hw⟩ := p_restore1 row crow w3
      rcases p_reg2 mb (show a + 1 ≤ L by omega) hL e1 with ⟨z, -, -⟩ | ⟨-, z⟩
      · exact absurd z (by decide)
      · rw [hR, if_neg hi, z, Option.bind_some]
        dsimp only
        rw [hw, Option.bind_some]
        exact Or.inr ⟨1, nI 6, _, _, _, Or.inr ⟨rfl, p_no6 hi d⟩, rfl, rfl⟩
  · by_cases hi : isC e = 0
    · rw [hR, if_pos hi, hM, Option.bind_some]
      obtain ⟨row2, hw⟩ := p_restore1 row crow r
      dsimp only
      rw [hw, Option.bind_some]
      exact Or.inr ⟨0, nI 6, _, _, _, Or.inl rfl, rfl, rfl⟩
    · obtain ⟨w3, a3, e1, e2, e3⟩ := p_Mleb1 mb (show a + 1 ≤ L by omega) hL 0
      obtain ⟨row2, hw⟩ := p_restore1 row crow w3
      rcases p_reg2 mb (show a + 1 ≤ L by omega) hL e1 with ⟨z, -, -⟩ | ⟨-, z⟩
      · exact absurd z (by decide)
      · rw [hR, if_neg hi, z, Option.bind_some]
        dsimp only
        rw [hw, Option.bind_some]
        exact Or.inr ⟨0, nI 6, _, _, _, Or.inl rfl, rfl, rfl⟩
theorem p_I7 {mb bb : Nat → Int32} (hB : pB mb bb) {a L e c d : Nat} (ha : a < L) (hL : L ≤ 512) (he : e < 16) (hc : c < 16) (hd : d ≤ 4) (pl : Int32) (isC common code data row crow kept : Nat → Int32) (hce : common e = nI c) (o0 r0 n0 b0 : Int32) (hb : mb a = nI 7) : pIns L a d (isC e) (code c) (data c) pl row crow kept (f_In_readFrom o0 r0 n0 b0 (nI a) (nI L) 0 bb) (f_Md_instruction (nI a) (nI L) 0 (nI d) pl mb isC common code data row crow kept (nI e)) := by
  rw [p_RF hB ha hL (k := 7) (by omega) hb, p_Ro7, p_M7 ha hL he hc (nI d) pl mb isC common code data row crow kept hce hb, p_MR7]
  rcases p_Bf hB (show a + 1 ≤ L by omega) hL (nI 7) 0 0 with ⟨k, a1, hk, l1, l2, hR, hM⟩ | ⟨r, b, a1, l1, l2, hR, hM⟩
  · rw [hR, hM, Option.bind_some]
    dsimp only
    rw [p_rule _ _ hk, Option.bind_some, Option.bind_some]
    exact Or.inl ⟨nI 7, k, 0, 0, a1, d, pl, _, kept, hk, by omega, l2, hd, p_ok7 _ _, p_num7 _ _ _, rfl, rfl, (p_e7 _ _ _ _ _ _ _ _ _ _).symm⟩
  · rw [hR, hM, Option.bind_some]
    obtain ⟨row2, hw⟩ := p_rule1 row r 0 0 0
    dsimp only
    rw [hw, Option.bind_some, Option.bind_some]
    exact Or.inr ⟨0, nI 7, _, _, _, Or.inl rfl, rfl, rfl⟩
theorem p_I8 {mb bb : Nat → Int32} (hB : pB mb bb) {a L e c d : Nat} (ha : a < L) (hL : L ≤ 512) (he : e < 16) (hc : c < 16) (hd : d ≤ 4) (pl : Int32) (isC common code data row crow kept : Nat → Int32) (hce : common e = nI c) (o0 r0 n0 b0 : Int32) (hb : mb a = nI 8) : pIns L a d (isC e) (code c) (data c) pl row crow kept (f_In_readFrom o0 r0 n0 b0 (nI a) (nI L) 0 bb) (f_Md_instruction (nI a) (nI L) 0 (nI d) pl mb isC common code data row crow kept (nI e)) := by
  rw [p_RF hB ha hL (k := 8) (by omega) hb, p_Ro8, p_M8 ha hL he hc (nI d) pl mb isC common code data row crow kept hce hb, p_MR8]
  rcases p_Bf hB (show a + 1 ≤ L by omega) hL (nI 8) 0 0 with ⟨k, a1, hk, l1, l2, hR, hM⟩ | ⟨r, b, a1, l1, l2, hR, hM⟩
  · rw [hR, hM, Option.bind_some]
    dsimp only
    rw [p_rule _ _ hk, Option.bind_some, Option.bind_some]
    exact Or.inl ⟨nI 8, k, 0, 0, a1, d, pl, _, kept, hk, by omega, l2, hd, p_ok8 _ _, p_num8 _ _ _, rfl, rfl, (p_e8 _ _ _ _ _ _ _ _ _ _).symm⟩
  · rw [hR, hM, Option.bind_some]
    obtain ⟨row2, hw⟩ := p_rule1 row r 1 0 0
    dsimp only
    rw [hw, Option.bind_some, Option.bind_some]
    exact Or.inr ⟨0, nI 8, _, _, _, Or.inl rfl, rfl, rfl⟩
theorem p_I9 {mb bb : Nat → Int32} (hB : pB mb bb) {a L e c d : Nat} (ha : a < L) (hL : L ≤ 512) (he : e < 16) (hc : c < 16) (hd : d ≤ 4) (pl : Int32) (isC common code data row crow kept : Nat → Int32) (hce : common e = nI c) (o0 r0 n0 b0 : Int32) (hb : mb a = nI 9) : pIns L a d (isC e) (code c) (data c) pl row crow kept (f_In_readFrom o0 r0 n0 b0 (nI a) (nI L) 0 bb) (f_Md_instruction (nI a) (nI L) 0 (nI d) pl mb isC common code data row crow kept (nI e)) := by
  rw [p_RF hB ha hL (k := 9) (by omega) hb, p_Ro9, p_M9 ha hL he hc (nI d) pl mb isC common code data row crow kept hce hb, p_MR9]
  rcases p_Cm (β := Int32 × Int32 × (Nat → Int32)) hB (show a + 1 ≤ L by omega) hL (nI 9) 0 with ⟨k, j, a1, y, z, hk, hj, l1, l2, hR, hK⟩ | ⟨r, n, b, a1, a2, u, q, l1, l2, l3, l4, hu1, hu2, hR, hK⟩
  · rw [hR, hK (fun u q => ((f_Md_rule u.2.2 row q.1 4 u.1 0).bind fun v => some (u.2.1, v.1, v.2)))]
    dsimp only
    rw [p_rule _ _ hk, Option.bind_some, Option.bind_some]
    exact Or.inl ⟨nI 9, k, nI j, 0, a1, d, pl, _, kept, hk, by omega, l2, hd, p_ok9 _ _, p_num9 hj _ _, rfl, rfl, (p_e9 _ _ _ _ _ _ _ _ _ _).symm⟩
  · rw [hR, hK (fun u q => ((f_Md_rule u.2.2 row q.1 4 u.1 0).bind fun v => some (u.2.1, v.1, v.2)))]
    obtain ⟨row2, hw⟩ := p_rule1 row q.1 4 u.1 0
    rw [hu2, hw, Option.bind_some, Option.bind_some]
    exact Or.inr ⟨0, nI 9, _, _, _, Or.inl rfl, rfl, rfl⟩
theorem p_I10 {mb bb : Nat → Int32} (hB : pB mb bb) {a L e c d : Nat} (ha : a < L) (hL : L ≤ 512) (he : e < 16) (hc : c < 16) (hd : d ≤ 4) (pl : Int32) (isC common code data row crow kept : Nat → Int32) (hce : common e = nI c) (o0 r0 n0 b0 : Int32) (hb : mb a = nI 10) : pIns L a d (isC e) (code c) (data c) pl row crow kept (f_In_readFrom o0 r0 n0 b0 (nI a) (nI L) 0 bb) (f_Md_instruction (nI a) (nI L) 0 (nI d) pl mb isC common code data row crow kept (nI e)) := by
  rw [p_RF hB ha hL (k := 10) (by omega) hb, p_Ro10, p_M10 ha hL he hc (nI d) pl mb isC common code data row crow kept hce hb, Option.bind_some]
  have hf := p_fin (k := 0) (by omega) (nI 10) 0 0 (nI (a + 1)) (nI L) bb
  by_cases hi : isC e = 0
  · rw [if_pos hi]
    by_cases h4 : d < 4
    · rw [p_keep _ _ _ h4, Option.bind_some]
      exact Or.inl ⟨nI 10, 0, 0, 0, a + 1, d + 1, pl, row, _, by omega, by omega, by omega, by omega, p_ok10 hi h4, p_num10 _ _ _, hf, rfl, (p_e10 _ _ _ _ _ _ _ _ _ _).symm⟩
    · obtain rfl : d = 4 := by omega
      rw [p_keepN, Option.bind_some]
      exact Or.inr ⟨1, nI 10, _, _, _, Or.inr ⟨rfl, fun z => h4 (z.2.1 (by decide))⟩, hf, rfl⟩
  · rw [if_neg hi]
    by_cases h4 : d < 4
    · rw [p_keep _ _ _ h4, Option.bind_some]
      exact Or.inr ⟨1, nI 10, _, _, _, Or.inr ⟨rfl, p_no10 hi d⟩, hf, rfl⟩
    · obtain rfl : d = 4 := by omega
      rw [p_keepN, Option.bind_some]
      exact Or.inr ⟨1, nI 10, _, _, _, Or.inr ⟨rfl, p_no10 hi 4⟩, hf, rfl⟩
theorem p_I11 {mb bb : Nat → Int32} (hB : pB mb bb) {a L e c d : Nat} (ha : a < L) (hL : L ≤ 512) (he : e < 16) (hc : c < 16) (hd : d ≤ 4) (pl : Int32) (isC common code data row crow kept : Nat → Int32) (hce : common e = nI c) (o0 r0 n0 b0 : Int32) (hb : mb a = nI 11) : pIns L a d (isC e) (code c) (data c) pl row crow kept (f_In_readFrom o0 r0 n0 b0 (nI a) (nI L) 0 bb) (f_Md_instruction (nI a) (nI L) 0 (nI d) pl mb isC common code data row crow kept (nI e)) := by
  rw [p_RF hB ha hL (k := 11) (by omega) hb, p_Ro11, p_M11 ha hL he hc (nI d) pl mb isC common code data row crow kept hce hb, Option.bind_some]
  have hf := p_fin (k := 0) (by omega) (nI 11) 0 0 (nI (a + 1)) (nI L) bb
  by_cases hi : isC e = 0
  · rw [if_pos hi]
    match d, hd with
    | 0, _ =>
      rw [p_backN, Option.bind_some]
      exact Or.inr ⟨1, nI 11, _, _, _, Or.inr ⟨rfl, fun z => absurd (z.2.2 (by decide)) (by omega)⟩, hf, rfl⟩
    | d + 1, hd =>
      rw [p_back _ _ _ (show d < 4 by omega), Option.bind_some]
      exact Or.inl ⟨nI 11, 0, 0, 0, a + 1, d, pl, _, kept, by omega, by omega, by omega, by omega, p_ok11 hi (by omega), p_num11 _ _ _, hf, rfl, (p_e11 0 0 0 (code c) (data c) (d + 1) pl row crow kept).symm⟩
  · rw [if_neg hi]
    match d, hd with
    | 0, _ =>
      rw [p_backN, Option.bind_some]
      exact Or.inr ⟨1, nI 11, _, _, _, Or.inr ⟨rfl, p_no11 hi _⟩, hf, rfl⟩
    | d + 1, hd =>
      rw [p_back _ _ _ (show d < 4 by omega), Option.bind_some]
      exact Or.inr ⟨1, nI 11, _, _, _, Or.inr ⟨rfl, p_no11 hi _⟩, hf, rfl⟩
theorem p_I12 {mb bb : Nat → Int32} (hB : pB mb bb) {a L e c d : Nat} (ha : a < L) (hL : L ≤ 512) (he : e < 16) (hc : c < 16) (hd : d ≤ 4) (pl : Int32) (isC common code data row crow kept : Nat → Int32) (hce : common e = nI c) (o0 r0 n0 b0 : Int32) (hb : mb a = nI 12) : pIns L a d (isC e) (code c) (data c) pl row crow kept (f_In_readFrom o0 r0 n0 b0 (nI a) (nI L) 0 bb) (f_Md_instruction (nI a) (nI L) 0 (nI d) pl mb isC common code data row crow kept (nI e)) := by
  rw [p_RF hB ha hL (k := 12) (by omega) hb, p_Ro12, p_M12 ha hL he hc (nI d) pl mb isC common code data row crow kept hce hb, p_MC12]
  have hA := p_A (β := Int32 × Int32 × (Nat → Int32)) hB (show a + 1 ≤ L by omega) hL (nI 12) 0 (g := 0) (by decide)
  rw [p_rl0] at hA
  rcases hA with ⟨k, n, a1, x, y, hk, l1, l2, hR, hK⟩ | ⟨r, n, b, a1, a2, w, r2, x, y, l1, l2, l3, l4, hR, hK⟩
  · rw [hR, hK (fun u q => some (u.2.1, u.2.2, pCfa row 1 u.1 q.1))]
    rw [Option.bind_some]
    exact Or.inl ⟨nI 12, k, n, 0, a1, d, pl, _, kept, hk, by omega, l2, hd, p_ok12 _ _, p_num12 _ _ _, rfl, rfl, (p_e12 _ _ _ _ _ _ _ _ _ _).symm⟩
  · rw [hR, hK (fun u q => some (u.2.1, u.2.2, pCfa row 1 u.1 q.1))]
    rw [Option.bind_some]
    exact Or.inr ⟨0, nI 12, _, _, _, Or.inl rfl, rfl, rfl⟩
theorem p_I13 {mb bb : Nat → Int32} (hB : pB mb bb) {a L e c d : Nat} (ha : a < L) (hL : L ≤ 512) (he : e < 16) (hc : c < 16) (hd : d ≤ 4) (pl : Int32) (isC common code data row crow kept : Nat → Int32) (hce : common e = nI c) (o0 r0 n0 b0 : Int32) (hb : mb a = nI 13) : pIns L a d (isC e) (code c) (data c) pl row crow kept (f_In_readFrom o0 r0 n0 b0 (nI a) (nI L) 0 bb) (f_Md_instruction (nI a) (nI L) 0 (nI d) pl mb isC common code data row crow kept (nI e)) := by
  rw [p_RF hB ha hL (k := 13) (by omega) hb, p_Ro13, p_M13 ha hL he hc (nI d) pl mb isC common code data row crow kept hce hb, p_MC13]
  rcases p_Bf hB (show a + 1 ≤ L by omega) hL (nI 13) 0 0 with ⟨k, a1, hk, l1, l2, hR, hM⟩ | ⟨r, b, a1, l1, l2, hR, hM⟩
  · rw [hR, hM, Option.bind_some, Option.bind_some]
    exact Or.inl ⟨nI 13, k, 0, 0, a1, d, pl, _, kept, hk, by omega, l2, hd, p_ok13 _ _, p_num13 _ _ _, rfl, rfl, (p_e13 _ _ _ _ _ _ _ _ _ _).symm⟩
  · rw [hR, hM, Option.bind_some, Option.bind_some]
    exact Or.inr ⟨0, nI 13, _, _, _, Or.inl rfl, rfl, rfl⟩
theorem p_I14 {mb bb : Nat → Int32} (hB : pB mb bb) {a L e c d : Nat} (ha : a < L) (hL : L ≤ 512) (he : e < 16) (hc : c < 16) (hd : d ≤ 4) (pl : Int32) (isC common code data row crow kept : Nat → Int32) (hce : common e = nI c) (o0 r0 n0 b0 : Int32) (hb : mb a = nI 14) : pIns L a d (isC e) (code c) (data c) pl row crow kept (f_In_readFrom o0 r0 n0 b0 (nI a) (nI L) 0 bb) (f_Md_instruction (nI a) (nI L) 0 (nI d) pl mb isC common code data row crow kept (nI e)) := by
  rw [p_RF hB ha hL (k := 14) (by omega) hb, p_Ro14, p_M14 ha hL he hc (nI d) pl mb isC common code data row crow kept hce hb, p_MC14]
  have hE := p_E hB (show a + 1 ≤ L by omega) hL (nI 14) 0 (g := 0) (by decide)
  rw [p_rl0] at hE
  rcases hE with ⟨n, a1, l1, l2, hR, hM⟩ | ⟨n, a1, l1, l2, hR, hM⟩
  · rw [hR, hM, Option.bind_some, Option.bind_some]
    exact Or.inl ⟨nI 14, 0, n, 0, a1, d, pl, _, kept, by omega, by omega, l2, hd, p_ok14 _ _, p_num14 _ _ _, rfl, rfl, (p_e14 _ _ _ _ _ _ _ _ _ _).symm⟩
  · rw [hR, hM, Option.bind_some, Option.bind_some]
    exact Or.inr ⟨0, nI 14, _, _, _, Or.inl rfl, rfl, rfl⟩
theorem p_I15 {mb bb : Nat → Int32} (hB : pB mb bb) {a L e c d : Nat} (ha : a < L) (hL : L ≤ 512) (he : e < 16) (hc : c < 16) (hd : d ≤ 4) (pl : Int32) (isC common code data row crow kept : Nat → Int32) (hce : common e = nI c) (o0 r0 n0 b0 : Int32) (hb : mb a = nI 15) : pIns L a d (isC e) (code c) (data c) pl row crow kept (f_In_readFrom o0 r0 n0 b0 (nI a) (nI L) 0 bb) (f_Md_instruction (nI a) (nI L) 0 (nI d) pl mb isC common code data row crow kept (nI e)) := by
  rw [p_RF hB ha hL (k := 15) (by omega) hb, p_Ro15, p_M15 ha hL he hc (nI d) pl mb isC common code data row crow kept hce hb, p_MC15]
  rcases p_Fm (β := Int32 × Int32 × (Nat → Int32)) hB (show a + 1 ≤ L by omega) hL (nI 15) with ⟨x, m, l1, l2, hR, hK⟩ | ⟨n, g, a1, a2, p, z, u, v, l1, l2, l3, l4, hR, hK⟩
  · rw [hR, hK (fun w u => some (w.2.1, w.2.2, pCfa row 2 w.1 u.1)), Option.bind_some]
    exact Or.inl ⟨nI 15, 0, nI m, nI x, x + m, d, pl, _, kept, by omega, by omega, l2, hd, p_ok15 _ _, p_num15 l2, rfl, rfl, (p_e15 _ _ _ _ _ _ _ _ _ _).symm⟩
  · rw [hR, hK (fun w u => some (w.2.1, w.2.2, pCfa row 2 w.1 u.1)), Option.bind_some]
    exact Or.inr ⟨0, nI 15, _, _, _, Or.inl rfl, rfl, rfl⟩
theorem p_I16 {mb bb : Nat → Int32} (hB : pB mb bb) {a L e c d : Nat} (ha : a < L) (hL : L ≤ 512) (he : e < 16) (hc : c < 16) (hd : d ≤ 4) (pl : Int32) (isC common code data row crow kept : Nat → Int32) (hce : common e = nI c) (o0 r0 n0 b0 : Int32) (hb : mb a = nI 16) : pIns L a d (isC e) (code c) (data c) pl row crow kept (f_In_readFrom o0 r0 n0 b0 (nI a) (nI L) 0 bb) (f_Md_instruction (nI a) (nI L) 0 (nI d) pl mb isC common code data row crow kept (nI e)) := by
  rw [p_RF hB ha hL (k := 16) (by omega) hb, p_Ro16, p_M16 ha hL he hc (nI d) pl mb isC common code data row crow kept hce hb, p_MR16]
  rcases p_Dm (β := Int32 × Int32 × (Nat → Int32)) hB (show a + 1 ≤ L by omega) hL (nI 16) with ⟨k, x, m, y, z, hk, l1, l2, hR, hK⟩ | ⟨r, n, g, b, a1, a2, w, u, q, l1, l2, l3, l4, hu1, hu2, hR, hK⟩
  · rw [hR, hK (fun w u q => ((f_Md_rule w.2.2 row q.1 5 w.1 u.1).bind fun v => some (w.2.1, v.1, v.2)))]
    dsimp only
    rw [p_rule _ _ hk, Option.bind_some, Option.bind_some]
    exact Or.inl ⟨nI 16, k, nI m, nI x, x + m, d, pl, _, kept, hk, by omega, l2, hd, p_ok16 _ _, p_num16 l2, rfl, rfl, (p_e16 _ _ _ _ _ _ _ _ _ _).symm⟩
  · rw [hR, hK (fun w u q => ((f_Md_rule w.2.2 row q.1 5 w.1 u.1).bind fun v => some (w.2.1, v.1, v.2)))]
    obtain ⟨row2, hw⟩ := p_rule1 row q.1 5 w.1 u.1
    rw [hu2, hw, Option.bind_some, Option.bind_some]
    exact Or.inr ⟨0, nI 16, _, _, _, Or.inl rfl, rfl, rfl⟩
theorem p_I17 {mb bb : Nat → Int32} (hB : pB mb bb) {a L e c d : Nat} (ha : a < L) (hL : L ≤ 512) (he : e < 16) (hc : c < 16) (hd : d ≤ 4) (pl : Int32) (isC common code data row crow kept : Nat → Int32) (hce : common e = nI c) (o0 r0 n0 b0 : Int32) (hb : mb a = nI 17) : pIns L a d (isC e) (code c) (data c) pl row crow kept (f_In_readFrom o0 r0 n0 b0 (nI a) (nI L) 0 bb) (f_Md_instruction (nI a) (nI L) 0 (nI d) pl mb isC common code data row crow kept (nI e)) := by
  rw [p_RF hB ha hL (k := 17) (by omega) hb, p_Ro17, p_M17 ha hL he hc (nI d) pl mb isC common code data row crow kept hce hb, p_MR17]
  have hA := p_A (β := Int32 × Int32 × (Nat → Int32)) hB (show a + 1 ≤ L by omega) hL (nI 17) 0 (g := 1) (by decide)
  rw [p_rl1] at hA
  rcases hA with ⟨k, n, a1, x, y, hk, l1, l2, hR, hK⟩ | ⟨r, n, b, a1, a2, w, r2, x, y, l1, l2, l3, l4, hR, hK⟩
  · rw [hR, hK (fun u q => ((f_Md_rule u.2.2 row q.1 2 (u.1 * data c) 0).bind fun v => some (u.2.1, v.1, v.2)))]
    dsimp only
    rw [p_rule _ _ hk, Option.bind_some, Option.bind_some]
    exact Or.inl ⟨nI 17, k, n, 0, a1, d, pl, _, kept, hk, by omega, l2, hd, p_ok17 _ _, p_num17 _ _ _, rfl, rfl, (p_e17 _ _ _ _ _ _ _ _ _ _).symm⟩
  · rw [hR, hK (fun u q => ((f_Md_rule u.2.2 row q.1 2 (u.1 * data c) 0).bind fun v => some (u.2.1, v.1, v.2)))]
    obtain ⟨row2, hw⟩ := p_rule1 row r2 2 (w * data c) 0
    dsimp only
    rw [hw, Option.bind_some, Option.bind_some]
    exact Or.inr ⟨0, nI 17, _, _, _, Or.inl rfl, rfl, rfl⟩
theorem p_I18 {mb bb : Nat → Int32} (hB : pB mb bb) {a L e c d : Nat} (ha : a < L) (hL : L ≤ 512) (he : e < 16) (hc : c < 16) (hd : d ≤ 4) (pl : Int32) (isC common code data row crow kept : Nat → Int32) (hce : common e = nI c) (o0 r0 n0 b0 : Int32) (hb : mb a = nI 18) : pIns L a d (isC e) (code c) (data c) pl row crow kept (f_In_readFrom o0 r0 n0 b0 (nI a) (nI L) 0 bb) (f_Md_instruction (nI a) (nI L) 0 (nI d) pl mb isC common code data row crow kept (nI e)) := by
  rw [p_RF hB ha hL (k := 18) (by omega) hb, p_Ro18, p_M18 ha hL he hc (nI d) pl mb isC common code data row crow kept hce hb, p_MC18]
  have hA := p_A (β := Int32 × Int32 × (Nat → Int32)) hB (show a + 1 ≤ L by omega) hL (nI 18) 0 (g := 1) (by decide)
  rw [p_rl1] at hA
  rcases hA with ⟨k, n, a1, x, y, hk, l1, l2, hR, hK⟩ | ⟨r, n, b, a1, a2, w, r2, x, y, l1, l2, l3, l4, hR, hK⟩
  · rw [hR, hK (fun u q => some (u.2.1, u.2.2, pCfa row 1 (u.1 * data c) q.1))]
    rw [Option.bind_some]
    exact Or.inl ⟨nI 18, k, n, 0, a1, d, pl, _, kept, hk, by omega, l2, hd, p_ok18 _ _, p_num18 _ _ _, rfl, rfl, (p_e18 _ _ _ _ _ _ _ _ _ _).symm⟩
  · rw [hR, hK (fun u q => some (u.2.1, u.2.2, pCfa row 1 (u.1 * data c) q.1))]
    rw [Option.bind_some]
    exact Or.inr ⟨0, nI 18, _, _, _, Or.inl rfl, rfl, rfl⟩
theorem p_I19 {mb bb : Nat → Int32} (hB : pB mb bb) {a L e c d : Nat} (ha : a < L) (hL : L ≤ 512) (he : e < 16) (hc : c < 16) (hd : d ≤ 4) (pl : Int32) (isC common code data row crow kept : Nat → Int32) (hce : common e = nI c) (o0 r0 n0 b0 : Int32) (hb : mb a = nI 19) : pIns L a d (isC e) (code c) (data c) pl row crow kept (f_In_readFrom o0 r0 n0 b0 (nI a) (nI L) 0 bb) (f_Md_instruction (nI a) (nI L) 0 (nI d) pl mb isC common code data row crow kept (nI e)) := by
  rw [p_RF hB ha hL (k := 19) (by omega) hb, p_Ro19, p_M19 ha hL he hc (nI d) pl mb isC common code data row crow kept hce hb, p_MC19]
  have hE := p_E hB (show a + 1 ≤ L by omega) hL (nI 19) 0 (g := 1) (by decide)
  rw [p_rl1] at hE
  rcases hE with ⟨n, a1, l1, l2, hR, hM⟩ | ⟨n, a1, l1, l2, hR, hM⟩
  · rw [hR, hM, Option.bind_some, Option.bind_some]
    exact Or.inl ⟨nI 19, 0, n, 0, a1, d, pl, _, kept, by omega, by omega, l2, hd, p_ok19 _ _, p_num19 _ _ _, rfl, rfl, (p_e19 _ _ _ _ _ _ _ _ _ _).symm⟩
  · rw [hR, hM, Option.bind_some, Option.bind_some]
    exact Or.inr ⟨0, nI 19, _, _, _, Or.inl rfl, rfl, rfl⟩
theorem p_I20 {mb bb : Nat → Int32} (hB : pB mb bb) {a L e c d : Nat} (ha : a < L) (hL : L ≤ 512) (he : e < 16) (hc : c < 16) (hd : d ≤ 4) (pl : Int32) (isC common code data row crow kept : Nat → Int32) (hce : common e = nI c) (o0 r0 n0 b0 : Int32) (hb : mb a = nI 20) : pIns L a d (isC e) (code c) (data c) pl row crow kept (f_In_readFrom o0 r0 n0 b0 (nI a) (nI L) 0 bb) (f_Md_instruction (nI a) (nI L) 0 (nI d) pl mb isC common code data row crow kept (nI e)) := by
  rw [p_RF hB ha hL (k := 20) (by omega) hb, p_Ro20, p_M20 ha hL he hc (nI d) pl mb isC common code data row crow kept hce hb, p_MR20]
  have hA := p_A (β := Int32 × Int32 × (Nat → Int32)) hB (show a + 1 ≤ L by omega) hL (nI 20) 0 (g := 0) (by decide)
  rw [p_rl0] at hA
  rcases hA with ⟨k, n, a1, x, y, hk, l1, l2, hR, hK⟩ | ⟨r, n, b, a1, a2, w, r2, x, y, l1, l2, l3, l4, hR, hK⟩
  · rw [hR, hK (fun u q => ((f_Md_rule u.2.2 row q.1 3 (u.1 * data c) 0).bind fun v => some (u.2.1, v.1, v.2)))]
    dsimp only
    rw [p_rule _ _ hk, Option.bind_some, Option.bind_some]
    exact Or.inl ⟨nI 20, k, n, 0, a1, d, pl, _, kept, hk, by omega, l2, hd, p_ok20 _ _, p_num20 _ _ _, rfl, rfl, (p_e20 _ _ _ _ _ _ _ _ _ _).symm⟩
  · rw [hR, hK (fun u q => ((f_Md_rule u.2.2 row q.1 3 (u.1 * data c) 0).bind fun v => some (u.2.1, v.1, v.2)))]
    obtain ⟨row2, hw⟩ := p_rule1 row r2 3 (w * data c) 0
    dsimp only
    rw [hw, Option.bind_some, Option.bind_some]
    exact Or.inr ⟨0, nI 20, _, _, _, Or.inl rfl, rfl, rfl⟩
theorem p_I21 {mb bb : Nat → Int32} (hB : pB mb bb) {a L e c d : Nat} (ha : a < L) (hL : L ≤ 512) (he : e < 16) (hc : c < 16) (hd : d ≤ 4) (pl : Int32) (isC common code data row crow kept : Nat → Int32) (hce : common e = nI c) (o0 r0 n0 b0 : Int32) (hb : mb a = nI 21) : pIns L a d (isC e) (code c) (data c) pl row crow kept (f_In_readFrom o0 r0 n0 b0 (nI a) (nI L) 0 bb) (f_Md_instruction (nI a) (nI L) 0 (nI d) pl mb isC common code data row crow kept (nI e)) := by
  rw [p_RF hB ha hL (k := 21) (by omega) hb, p_Ro21, p_M21 ha hL he hc (nI d) pl mb isC common code data row crow kept hce hb, p_MR21]
  have hA := p_A (β := Int32 × Int32 × (Nat → Int32)) hB (show a + 1 ≤ L by omega) hL (nI 21) 0 (g := 1) (by decide)
  rw [p_rl1] at hA
  rcases hA with ⟨k, n, a1, x, y, hk, l1, l2, hR, hK⟩ | ⟨r, n, b, a1, a2, w, r2, x, y, l1, l2, l3, l4, hR, hK⟩
  · rw [hR, hK (fun u q => ((f_Md_rule u.2.2 row q.1 3 (u.1 * data c) 0).bind fun v => some (u.2.1, v.1, v.2)))]
    dsimp only
    rw [p_rule _ _ hk, Option.bind_some, Option.bind_some]
    exact Or.inl ⟨nI 21, k, n, 0, a1, d, pl, _, kept, hk, by omega, l2, hd, p_ok21 _ _, p_num21 _ _ _, rfl, rfl, (p_e21 _ _ _ _ _ _ _ _ _ _).symm⟩
  · rw [hR, hK (fun u q => ((f_Md_rule u.2.2 row q.1 3 (u.1 * data c) 0).bind fun v => some (u.2.1, v.1, v.2)))]
    obtain ⟨row2, hw⟩ := p_rule1 row r2 3 (w * data c) 0
    dsimp only
    rw [hw, Option.bind_some, Option.bind_some]
    exact Or.inr ⟨0, nI 21, _, _, _, Or.inl rfl, rfl, rfl⟩
theorem p_I22 {mb bb : Nat → Int32} (hB : pB mb bb) {a L e c d : Nat} (ha : a < L) (hL : L ≤ 512) (he : e < 16) (hc : c < 16) (hd : d ≤ 4) (pl : Int32) (isC common code data row crow kept : Nat → Int32) (hce : common e = nI c) (o0 r0 n0 b0 : Int32) (hb : mb a = nI 22) : pIns L a d (isC e) (code c) (data c) pl row crow kept (f_In_readFrom o0 r0 n0 b0 (nI a) (nI L) 0 bb) (f_Md_instruction (nI a) (nI L) 0 (nI d) pl mb isC common code data row crow kept (nI e)) := by
  rw [p_RF hB ha hL (k := 22) (by omega) hb, p_Ro22, p_M22 ha hL he hc (nI d) pl mb isC common code data row crow kept hce hb, p_MR22]
  rcases p_Dm (β := Int32 × Int32 × (Nat → Int32)) hB (show a + 1 ≤ L by omega) hL (nI 22) with ⟨k, x, m, y, z, hk, l1, l2, hR, hK⟩ | ⟨r, n, g, b, a1, a2, w, u, q, l1, l2, l3, l4, hu1, hu2, hR, hK⟩
  · rw [hR, hK (fun w u q => ((f_Md_rule w.2.2 row q.1 6 w.1 u.1).bind fun v => some (w.2.1, v.1, v.2)))]
    dsimp only
    rw [p_rule _ _ hk, Option.bind_some, Option.bind_some]
    exact Or.inl ⟨nI 22, k, nI m, nI x, x + m, d, pl, _, kept, hk, by omega, l2, hd, p_ok22 _ _, p_num22 l2, rfl, rfl, (p_e22 _ _ _ _ _ _ _ _ _ _).symm⟩
  · rw [hR, hK (fun w u q => ((f_Md_rule w.2.2 row q.1 6 w.1 u.1).bind fun v => some (w.2.1, v.1, v.2)))]
    obtain ⟨row2, hw⟩ := p_rule1 row q.1 6 w.1 u.1
    rw [hu2, hw, Option.bind_some, Option.bind_some]
    exact Or.inr ⟨0, nI 22, _, _, _, Or.inl rfl, rfl, rfl⟩
