/-! ===== Int32 by its bits: bt x i (rows of the kit's BITS.to-paste) ===== -/
def bt (x : Int32) (i : Nat) : Bool := x.toBitVec.getLsbD i
theorem b_ext {x y : Int32} (h : ∀ i, i < 32 → bt x i = bt y i) : x = y := Int32.toBitVec_inj.mp (BitVec.eq_of_getLsbD_eq (fun i hi => h i hi))
theorem b_or (x y : Int32) (i : Nat) : bt (x ||| y) i = (bt x i || bt y i) := by unfold bt; rw [Int32.toBitVec_or, BitVec.getLsbD_or]
theorem b_and (x y : Int32) (i : Nat) : bt (x &&& y) i = (bt x i && bt y i) := by unfold bt; rw [Int32.toBitVec_and, BitVec.getLsbD_and]
theorem b_xor (x y : Int32) (i : Nat) : bt (x ^^^ y) i = (bt x i ^^ bt y i) := by unfold bt; rw [Int32.toBitVec_xor, BitVec.getLsbD_xor]
theorem s_l : ∀ n, n < 32 → ((nI n &&& 31).toBitVec.smod 32).toNat = n := by decide +kernel
theorem b_shl (n : Nat) (hn : n < 32) (x : Int32) {i : Nat} (hi : i < 32) : bt (x <<< (nI n &&& 31)) i = (decide (n ≤ i) && bt x (i - n)) := by
  unfold bt
  rw [Int32.toBitVec_shiftLeft]
  show (x.toBitVec <<< ((nI n &&& 31).toBitVec.smod 32).toNat).getLsbD i = _
  rw [s_l n hn, BitVec.getLsbD_shiftLeft]
  rcases Nat.lt_or_ge i n with h | h
  · simp [h, Nat.not_le.mpr h]
  · simp [hi, h, Nat.not_lt.mpr h]
theorem b_sshr (n : Nat) (hn : n < 32) (x : Int32) {i : Nat} (hi : i < 32) : bt (x >>> (nI n &&& 31)) i = if n + i < 32 then bt x (n + i) else bt x 31 := by
  unfold bt
  rw [Int32.toBitVec_shiftRight]
  show (x.toBitVec.sshiftRight ((nI n &&& 31).toBitVec.smod 32).toNat).getLsbD i = _
  rw [s_l n hn, BitVec.getLsbD_sshiftRight, BitVec.msb_eq_getLsbD_last]
  simp [hi]
theorem b_b : ∀ (b : Bool) (i : Nat), i < 32 → bt (gb_i b) i = (decide (i = 0) && b) := by
  intro b
  cases b
  · exact (by decide +kernel : ∀ i, i < 32 → bt (gb_i false) i = (decide (i = 0) && false))
  · exact (by decide +kernel : ∀ i, i < 32 → bt (gb_i true) i = (decide (i = 0) && true))
theorem b_1 : ∀ i, i < 32 → bt 1 i = decide (i = 0) := by decide +kernel
theorem b_m2 : ∀ i, i < 32 → bt (-2) i = decide (1 ≤ i) := by decide +kernel
theorem b_z : ∀ i, i < 32 → bt 0 i = false := by decide +kernel
/-! TEXTS, told apart from the memories. A step: what (0 <, 1 =, 2 >, 3 not, 4 and, 5 or), a letter, a number. A clause: its word (0 strong, 1 weak, 2 bear, 3 hang), its number, its steps -/
abbrev fT : Type := Nat × Nat × Nat
abbrev fC : Type := Nat × Nat × List fT
def fT_so (fx : Nat → Int32) (k : fT) : Bool := if k.1 = 0 then !decide (nI k.2.2 ≤ fx k.2.1) else if k.1 = 1 then decide (fx k.2.1 = nI k.2.2) else !decide (fx k.2.1 ≤ nI k.2.2)
def fT_st (fx : Nat → Int32) (k : fT) (st : List Bool) : List Bool :=
  if k.1 = 3 then (match st with
    | a :: r => (!a) :: r
    | [] => [])
  else if k.1 = 4 then (match st with
    | a :: b :: r => (b && a) :: r
    | _ => [])
  else if k.1 = 5 then (match st with
    | a :: b :: r => (b || a) :: r
    | _ => [])
  else fT_so fx k :: st
def fT_run (fx : Nat → Int32) : List fT → List Bool → List Bool
  | [], st => st
  | k :: ts, st => fT_run fx ts (fT_st fx k st)
/-- a step that may be done -/
def fA (k : fT) (st : List Bool) : Prop := k.1 ≤ 5 ∧ (k.1 = 3 → 1 ≤ st.length) ∧ (k.1 = 4 ∨ k.1 = 5 → 2 ≤ st.length) ∧ (k.1 < 3 → st.length < 12 ∧ k.2.1 < 6 ∧ k.2.2 < 100)
def fOK (fx : Nat → Int32) : List fT → List Bool → Prop
  | [], _ => True
  | k :: ts, st => fA k st ∧ fOK fx ts (fT_st fx k st)
theorem fT_run_app {fx : Nat → Int32} : ∀ {a b : List fT} {st : List Bool}, fT_run fx (a ++ b) st = fT_run fx b (fT_run fx a st)
  | [], _, _ => rfl
  | k :: a, b, st => by
    show fT_run fx (a ++ b) (fT_st fx k st) = _
    rw [fT_run_app]
    rfl
theorem fOK_app {fx : Nat → Int32} : ∀ {a b : List fT} {st : List Bool}, fOK fx (a ++ b) st ↔ fOK fx a st ∧ fOK fx b (fT_run fx a st)
  | [], _, _ => ⟨fun h => ⟨trivial, h⟩, fun h => h.2⟩
  | k :: a, b, st => by
    show fA k st ∧ fOK fx (a ++ b) (fT_st fx k st) ↔ (fA k st ∧ fOK fx a (fT_st fx k st)) ∧ fOK fx b (fT_run fx a (fT_st fx k st))
    rw [fOK_app, and_assoc]
/-- steps that leave one answer more, and want k places for it -/
def fW (k : Nat) (ts : List fT) : Prop := ∀ (fx : Nat → Int32) (st : List Bool), st.length + k ≤ 12 → fOK fx ts st ∧ ∃ v, fT_run fx ts st = v :: st
theorem fW_le {k j : Nat} {ts : List fT} (h : fW k ts) (hj : k ≤ j) : fW j ts := fun fx st hs => h fx st (by omega)
theorem fW_test {k : fT} (h1 : k.1 < 3) (h2 : k.2.1 < 6) (h3 : k.2.2 < 100) : fW 1 [k] := by
  intro fx st hs
  refine ⟨⟨⟨by omega, fun e => by omega, fun e => by omega, fun _ => ⟨by omega, h2, h3⟩⟩, trivial⟩, fT_so fx k, ?_⟩
  show fT_st fx k st = _
  unfold fT_st
  rw [if_neg (by omega), if_neg (by omega), if_neg (by omega)]
theorem fW_not {j : Nat} {ts : List fT} (h : fW j ts) : fW j (ts ++ [(3, 0, 0)]) := by
  intro fx st hs
  obtain ⟨h1, v, h2⟩ := h fx st hs
  refine ⟨fOK_app.mpr ⟨h1, ?_⟩, !v, ?_⟩
  · rw [h2]
    exact ⟨⟨by decide, fun _ => by simp, fun e => by simp at e, fun e => by simp at e⟩, trivial⟩
  · rw [fT_run_app, h2]
    rfl
theorem fW_two {j n : Nat} {ts us : List fT} (hn : n = 4 ∨ n = 5) (h : fW (j + 1) ts) (h' : fW j us) : fW (j + 1) (ts ++ (us ++ [(n, 0, 0)])) := by
  intro fx st hs
  obtain ⟨h1, v, h2⟩ := h fx st hs
  obtain ⟨h3, u, h4⟩ := h' fx (v :: st) (by simp only [List.length_cons]; omega)
  have e : fT_run fx (ts ++ us) st = u :: v :: st := by rw [fT_run_app, h2, h4]
  rw [← List.append_assoc]
  refine ⟨fOK_app.mpr ⟨fOK_app.mpr ⟨h1, by rw [h2]; exact h3⟩, ?_⟩, ?_⟩
  · rw [e]
    exact ⟨⟨by show n ≤ 5; omega, fun q => by simp, fun q => by simp, fun q => by have q' : n < 3 := q; omega⟩, trivial⟩
  · rw [fT_run_app, e]
    rcases hn with rfl | rfl
    · exact ⟨v && u, rfl⟩
    · exact ⟨v || u, rfl⟩
/-- what a clause's steps answer -/
def fV (fx : Nat → Int32) (ts : List fT) : Bool := (fT_run fx ts []).headD false
theorem fV_eq {fx : Nat → Int32} {ts : List fT} {k : Nat} (h : fW k ts) (hk : k ≤ 12) : fOK fx ts [] ∧ fT_run fx ts [] = [fV fx ts] := by
  obtain ⟨h1, v, h2⟩ := h fx [] (by simp only [List.length_nil]; omega)
  refine ⟨h1, ?_⟩
  unfold fV
  rw [h2]
  rfl
def fC_add (fx : Nat → Int32) (c : fC) (v : Int32) : Int32 := if 1 < c.1 then v else if fV fx c.2.2 then (if c.1 = 0 then v + nI c.2.1 else v - nI c.2.1) else v
def fC_sum (fx : Nat → Int32) : List fC → Int32 → Int32
  | [], v => v
  | c :: r, v => fC_sum fx r (fC_add fx c v)
def fC_last (x : Nat) : List fC → Int32 → Int32
  | [], v => v
  | c :: r, v => fC_last x r (if c.1 = x then nI c.2.1 else v)
def fC_steps (c : fC) : List fT := if 1 < c.1 then [] else c.2.2 ++ [(6 + c.1, 0, c.2.1)]
def fC_flat : List fC → List fT
  | [] => []
  | c :: r => fC_steps c ++ fC_flat r
def fC_ok (c : fC) : Prop := c.1 ≤ 3 ∧ c.2.1 < 100 ∧ (c.1 ≤ 1 → fW 11 c.2.2)
theorem fC_flat_app : ∀ {a b : List fC}, fC_flat (a ++ b) = fC_flat a ++ fC_flat b
  | [], _ => rfl
  | c :: a, b => by
    show fC_steps c ++ fC_flat (a ++ b) = fC_steps c ++ fC_flat a ++ fC_flat b
    rw [fC_flat_app, List.append_assoc]
theorem fC_last_app {x : Nat} : ∀ {a b : List fC} {v : Int32}, fC_last x (a ++ b) v = fC_last x b (fC_last x a v)
  | [], _, _ => rfl
  | c :: a, b, v => by
    show fC_last x (a ++ b) _ = fC_last x b (fC_last x a _)
    rw [fC_last_app]
/-- the answers as the bits of an int -/
def fE : List Bool → Int32
  | [] => 0
  | b :: r => fE r <<< (1 &&& 31) ||| gb_i b
theorem fE_bt : ∀ (st : List Bool) (i : Nat), i < 32 → bt (fE st) i = st.getD i false
  | [], i, hi => by
    rw [show fE [] = 0 from rfl, b_z i hi]
    simp
  | b :: r, i, hi => by
    have e : bt (fE r <<< ((1 : Int32) &&& 31)) i = (decide (1 ≤ i) && bt (fE r) (i - 1)) := b_shl 1 (by omega) (fE r) hi
    rw [show fE (b :: r) = fE r <<< (1 &&& 31) ||| gb_i b from rfl, b_or, e, b_b b i hi]
    cases i with
    | zero => simp
    | succ i =>
      rw [Nat.add_sub_cancel, fE_bt r i (by omega)]
      simp
theorem fE_not {a : Bool} {r : List Bool} : fE (a :: r) ^^^ 1 = fE ((!a) :: r) := by
  refine b_ext (fun i hi => ?_)
  rw [b_xor, fE_bt _ i hi, fE_bt _ i hi, b_1 i hi]
  cases i with
  | zero => simp
  | succ i => simp
theorem fE_shr {a : Bool} {r : List Bool} (h : r.length < 31) {i : Nat} (hi : i < 32) : bt (fE (a :: r) >>> ((1 : Int32) &&& 31)) i = r.getD i false := by
  have e : bt (fE (a :: r) >>> ((1 : Int32) &&& 31)) i = if 1 + i < 32 then bt (fE (a :: r)) (1 + i) else bt (fE (a :: r)) 31 := b_sshr 1 (by omega) (fE (a :: r)) hi
  rw [e]
  split
  · rename_i h1
    rw [fE_bt _ _ h1, Nat.add_comm]
    simp
  · rename_i h1
    have ei : i = 31 := by omega
    subst ei
    rw [fE_bt _ 31 (by omega)]
    show r.getD 30 false = r.getD 31 false
    have q : ∀ i, 30 ≤ i → r.getD i false = false := by
      intro i hi
      rw [List.getD_eq_getElem?_getD, List.getElem?_eq_none (by omega)]
      rfl
    rw [q 30 (by omega), q 31 (by omega)]
theorem fE_and {a b : Bool} {r : List Bool} (h : r.length < 30) : fE (a :: b :: r) >>> (1 &&& 31) &&& (fE (a :: b :: r) &&& 1 ||| -2) = fE ((b && a) :: r) := by
  refine b_ext (fun i hi => ?_)
  rw [b_and, fE_shr (by simp only [List.length_cons]; omega) hi, b_or, b_and, fE_bt _ i hi, fE_bt _ i hi, b_1 i hi, b_m2 i hi]
  cases i with
  | zero => simp
  | succ i => simp
theorem fE_or {a b : Bool} {r : List Bool} (h : r.length < 30) : fE (a :: b :: r) >>> (1 &&& 31) ||| fE (a :: b :: r) &&& 1 = fE ((b || a) :: r) := by
  refine b_ext (fun i hi => ?_)
  rw [b_or, fE_shr (by simp only [List.length_cons]; omega) hi, b_and, fE_bt _ i hi, fE_bt _ i hi, b_1 i hi]
  cases i with
  | zero => simp
  | succ i => simp
theorem fE_top {b : Bool} : fE [b] &&& 1 = gb_i b := by cases b <;> decide
