/-! AN ABSTRACT MACHINE over numbered cells: a cell is an object (class number, fields) or an array (kind, length, contents); the reference k below 1000000 is cell k, 1000000 + j is the j-th thing that stood before the law began -/
abbrev gc_C : Type := (Nat × List Value) ⊕ (Nat × vp_A)
abbrev gc_M : Type := Nat × Nat × (Nat → gc_C)
abbrev gc_L : Type := List (Option Value)
abbrev gc_S : Type := Nat × gc_L × List Value × gc_M
abbrev gc_F : Type := Nat → gc_L → List Value → gc_M → Option gc_S
abbrev gc_G : Type := List Value → gc_M → Option (Nat × List Value × List Value)
abbrev gc_R : Type := List Value → Option (Option Value)
abbrev gc_E : Type := gc_F ⊕ (gc_G ⊕ gc_R)
def gc_up (M : gc_M) (k : Nat) (x : gc_C) : gc_M := (M.1, M.2.1, fun j => if j = k then x else M.2.2 j)
def gc_push (M : gc_M) (n : Nat) (x : gc_C) : gc_M := (M.1 + 1, M.2.1 + n, fun j => if j = M.1 then x else M.2.2 j)
def gc_arg : List Value → gc_L
  | [] => []
  | .long x :: r => some (.long x) :: none :: gc_arg r
  | .double x :: r => some (.double x) :: none :: gc_arg r
  | v :: r => some v :: gc_arg r
def gc_ini (args : List Value) (n : Nat) : gc_L := gc_arg args ++ List.replicate (n - (gc_arg args).length) none
def gc_run (P : Nat → Nat → Option gc_E) (nl : Nat → Nat) : Nat → Nat → Nat → Nat → gc_L → List Value → gc_M → Option (Option Value × gc_M)
  | 0, _, _, _, _, _, _ => none
  | n + 1, d, mid, pc, L, st, M => match P mid pc with
    | none => none
    | some (.inl f) => match f pc L st M with
      | none => none
      | some (pc', L', st', M') => gc_run P nl n d mid pc' L' st' M'
    | some (.inr (.inl g)) => match d with
      | 0 => none
      | d' + 1 => match g st M with
        | none => none
        | some (mid2, args, rest) => if (gc_arg args).length ≤ nl mid2 then match gc_run P nl n d' mid2 0 (gc_ini args (nl mid2)) [] M with
          | none => none
          | some (r, M2) => gc_run P nl n (d' + 1) mid (pc + 3) L (r.toList ++ rest) M2
          else none
    | some (.inr (.inr h)) => match h st with
      | none => none
      | some r => some (r, M)
theorem gc_run_up {P : Nat → Nat → Option gc_E} {nl : Nat → Nat} : ∀ (n : Nat) (d mid pc : Nat) (L : gc_L) (st : List Value) (M : gc_M) (x : Option Value × gc_M), gc_run P nl n d mid pc L st M = some x → gc_run P nl (n + 1) d mid pc L st M = some x
  | 0, _, _, _, _, _, _, _, h => by simp [gc_run] at h
  | n + 1, d, mid, pc, L, st, M, x, h => by
    rw [gc_run] at h ⊢
    cases hp : P mid pc with
    | none => rw [hp] at h; simp at h
    | some e =>
      rw [hp] at h
      obtain f | g | k := e
      · dsimp only at h ⊢
        cases hf : f pc L st M with
        | none => rw [hf] at h; simp at h
        | some y =>
          rw [hf] at h
          obtain ⟨pc', L', st', M'⟩ := y
          exact gc_run_up n d mid pc' L' st' M' x h
      · cases d with
        | zero => simp at h
        | succ d' =>
          dsimp only at h ⊢
          cases hg : g st M with
          | none => rw [hg] at h; simp at h
          | some y =>
            rw [hg] at h
            obtain ⟨m2, as, rest⟩ := y
            dsimp only at h ⊢
            split at h
            case isFalse => cases h
            rename_i hlen
            rw [if_pos hlen]
            cases hr : gc_run P nl n d' m2 0 (gc_ini as (nl m2)) [] M with
            | none => rw [hr] at h; simp at h
            | some z =>
              rw [hr] at h
              obtain ⟨r, M2⟩ := z
              rw [gc_run_up n d' m2 0 (gc_ini as (nl m2)) [] M (r, M2) hr]
              exact gc_run_up n (d' + 1) mid (pc + 3) L (r.toList ++ rest) M2 x h
      · exact h
theorem gc_run_le {P : Nat → Nat → Option gc_E} {nl : Nat → Nat} {n k d mid pc : Nat} {L : gc_L} {st : List Value} {M : gc_M} {x : Option Value × gc_M} (hk : n ≤ k) (h : gc_run P nl n d mid pc L st M = some x) : gc_run P nl k d mid pc L st M = some x := by
  induction hk with
  | refl => exact h
  | step _ ih => exact gc_run_up _ _ _ _ _ _ _ _ ih
/-- from here the machine comes to an end with Q -/
def gc_Ev (P : Nat → Nat → Option gc_E) (nl : Nat → Nat) (d mid pc : Nat) (L : gc_L) (st : List Value) (M : gc_M) (Q : Option Value → gc_M → Prop) : Prop := ∃ (n : Nat) (r : Option Value) (M' : gc_M), gc_run P nl n d mid pc L st M = some (r, M') ∧ Q r M'
theorem gc_next {P : Nat → Nat → Option gc_E} {nl : Nat → Nat} {d mid pc : Nat} {L : gc_L} {st : List Value} {M : gc_M} {Q : Option Value → gc_M → Prop} {f : gc_F} {pc' : Nat} {L' : gc_L} {st' : List Value} {M' : gc_M} (hp : P mid pc = some (.inl f)) (hf : f pc L st M = some (pc', L', st', M')) (k : gc_Ev P nl d mid pc' L' st' M' Q) : gc_Ev P nl d mid pc L st M Q := by
  obtain ⟨n, r, M2, h, q⟩ := k
  refine ⟨n + 1, r, M2, ?_, q⟩
  rw [gc_run, hp]
  dsimp only
  rw [hf]
  exact h
theorem gc_callE {P : Nat → Nat → Option gc_E} {nl : Nat → Nat} {d mid pc : Nat} {L : gc_L} {st : List Value} {M : gc_M} {Q : Option Value → gc_M → Prop} {g : gc_G} {m2 : Nat} {as rest : List Value} (hp : P mid pc = some (.inr (.inl g))) (hg : g st M = some (m2, as, rest)) (hlen : (gc_arg as).length ≤ nl m2) (k : gc_Ev P nl d m2 0 (gc_ini as (nl m2)) [] M (fun r M2 => gc_Ev P nl (d + 1) mid (pc + 3) L (r.toList ++ rest) M2 Q)) : gc_Ev P nl (d + 1) mid pc L st M Q := by
  obtain ⟨n, r, M2, h, n2, r2, M3, h2, q⟩ := k
  refine ⟨max n n2 + 1, r2, M3, ?_, q⟩
  rw [gc_run, hp]
  dsimp only
  rw [hg]
  dsimp only
  rw [if_pos hlen, gc_run_le (Nat.le_max_left n n2) h]
  exact gc_run_le (Nat.le_max_right n n2) h2
theorem gc_retE {P : Nat → Nat → Option gc_E} {nl : Nat → Nat} {d mid pc : Nat} {L : gc_L} {st : List Value} {M : gc_M} {Q : Option Value → gc_M → Prop} {h : gc_R} {r : Option Value} (hp : P mid pc = some (.inr (.inr h))) (hh : h st = some r) (q : Q r M) : gc_Ev P nl d mid pc L st M Q := by
  refine ⟨1, r, M, ?_, q⟩
  rw [gc_run, hp]
  dsimp only
  rw [hh]
theorem gc_Ev.mono {P : Nat → Nat → Option gc_E} {nl : Nat → Nat} {d mid pc : Nat} {L : gc_L} {st : List Value} {M : gc_M} {Q Q' : Option Value → gc_M → Prop} (h : gc_Ev P nl d mid pc L st M Q) (hQ : ∀ r M', Q r M' → Q' r M') : gc_Ev P nl d mid pc L st M Q' := by
  obtain ⟨n, r, M', a, b⟩ := h
  exact ⟨n, r, M', a, hQ _ _ b⟩
/-! the instructions -/
def gc_k (v : Value) (n : Nat) : gc_F := fun pc L st M => some (pc + n, L, v :: st, M)
def gc_ldI (i n : Nat) : gc_F := fun pc L st M => match L[i]? with
  | some (some (.int x)) => some (pc + n, L, .int x :: st, M)
  | _ => none
def gc_ldL (i n : Nat) : gc_F := fun pc L st M => match L[i]? with
  | some (some (.long x)) => some (pc + n, L, .long x :: st, M)
  | _ => none
def gc_ldA (i n : Nat) : gc_F := fun pc L st M => match L[i]? with
  | some (some (.ref x)) => some (pc + n, L, .ref x :: st, M)
  | _ => none
def gc_c1 (v : Value) : Bool := match v with
  | .long _ => false
  | .double _ => false
  | _ => true
def gc_kill (L : gc_L) : Nat → gc_L
  | 0 => L
  | j + 1 => match L[j]? with
    | some (some v) => if gc_c1 v = true then L else L.set j none
    | _ => L
def gc_set1 (L : gc_L) (i : Nat) (v : Value) : gc_L := (gc_kill L i).set i (some v)
def gc_stI (i n : Nat) : gc_F := fun pc L st M => match st with
  | .int x :: r => if i < L.length then some (pc + n, gc_set1 L i (.int x), r, M) else none
  | _ => none
def gc_stA (i n : Nat) : gc_F := fun pc L st M => match st with
  | .ref x :: r => if i < L.length then some (pc + n, gc_set1 L i (.ref x), r, M) else none
  | _ => none
def gc_inc (i : Nat) (z : Int) : gc_F := fun pc L st M => match L[i]? with
  | some (some (.int x)) => if i < L.length then some (pc + 3, gc_set1 L i (.int (x + Int32.ofInt z)), st, M) else none
  | _ => none
/-- two ints, one int -/
def gc_ii (op : Int32 → Int32 → Int32) : gc_F := fun pc L st M => match st with
  | .int y :: .int x :: r => some (pc + 1, L, .int (op x y) :: r, M)
  | _ => none
def gc_idiv : gc_F := fun pc L st M => match st with
  | .int y :: .int x :: r => if y = 0 then none else some (pc + 1, L, .int (x / y) :: r, M)
  | _ => none
def gc_irem : gc_F := fun pc L st M => match st with
  | .int y :: .int x :: r => if y = 0 then none else some (pc + 1, L, .int (x - x / y * y) :: r, M)
  | _ => none
def gc_i1 (op : Int32 → Int32) : gc_F := fun pc L st M => match st with
  | .int x :: r => some (pc + 1, L, .int (op x) :: r, M)
  | _ => none
def gc_i2l : gc_F := fun pc L st M => match st with
  | .int x :: r => some (pc + 1, L, .long x.toInt64 :: r, M)
  | _ => none
def gc_l2i : gc_F := fun pc L st M => match st with
  | .long x :: r => some (pc + 1, L, .int x.toInt32 :: r, M)
  | _ => none
def gc_ll (op : Int64 → Int64 → Int64) : gc_F := fun pc L st M => match st with
  | .long y :: .long x :: r => some (pc + 1, L, .long (op x y) :: r, M)
  | _ => none
def gc_lshl : gc_F := fun pc L st M => match st with
  | .int y :: .long x :: r => some (pc + 1, L, .long (x <<< (y.toInt64 &&& 63)) :: r, M)
  | _ => none
def gc_lcmp : gc_F := fun pc L st M => match st with
  | .long y :: .long x :: r => some (pc + 1, L, .int (lg_cmp x y) :: r, M)
  | _ => none
/-- branches -/
def gc_go (t : Nat) : gc_F := fun _ L st M => some (t, L, st, M)
def gc_if2 (c : Int32 → Int32 → Bool) (t : Nat) : gc_F := fun pc L st M => match st with
  | .int y :: .int x :: r => some (if c x y = true then t else pc + 3, L, r, M)
  | _ => none
def gc_if1 (c : Int32 → Bool) (t : Nat) : gc_F := fun pc L st M => match st with
  | .int x :: r => some (if c x = true then t else pc + 3, L, r, M)
  | _ => none
def gc_ifnull (t : Nat) : gc_F := fun pc L st M => match st with
  | .null :: r => some (t, L, r, M)
  | .ref k :: r => if k < 1000000 then some (pc + 3, L, r, M) else none
  | _ => none
def gc_ifnonnull (t : Nat) : gc_F := fun pc L st M => match st with
  | .null :: r => some (pc + 3, L, r, M)
  | .ref k :: r => if k < 1000000 then some (t, L, r, M) else none
  | _ => none
def gc_sw (f : Int32 → Nat) : gc_F := fun _ L st M => match st with
  | .int x :: r => some (f x, L, r, M)
  | _ => none
def gc_dup : gc_F := fun pc L st M => match st with
  | v :: r => if gc_c1 v = true then some (pc + 1, L, v :: v :: r, M) else none
  | _ => none
def gc_dup2 : gc_F := fun pc L st M => match st with
  | v :: w :: r => if gc_c1 v = true ∧ gc_c1 w = true then some (pc + 1, L, v :: w :: v :: w :: r, M) else none
  | _ => none
def gc_pop : gc_F := fun pc L st M => match st with
  | v :: r => if gc_c1 v = true then some (pc + 1, L, r, M) else none
  | _ => none
/-- what a field of a type may hold -/
def gc_ok (ty : FieldType) (v : Value) : Bool := match ty, v with
  | .int, .int _ => true
  | .long, .long _ => true
  | .boolean, .int x => x == 0 || x == 1
  | .object _, .null => true
  | .object _, .ref k => decide (k < 1000000)
  | .array _, .null => true
  | .array _, .ref k => decide (k < 1000000)
  | _, _ => false
/-- a field of an object of one of the classes cs -/
def gc_gf (cs : List Nat) (k : Nat) : gc_F := fun pc L st M => match st with
  | .ref a :: r => match M.2.2 a with
    | .inl (ci, fs) => if a < M.1 ∧ a < 1000000 ∧ ci ∈ cs then match fs[k]? with
      | some v => some (pc + 3, L, v :: r, M)
      | none => none
      else none
    | _ => none
  | _ => none
def gc_pf (cs : List Nat) (k : Nat) (ty : FieldType) : gc_F := fun pc L st M => match st with
  | v :: .ref a :: r => match M.2.2 a with
    | .inl (ci, fs) => if a < M.1 ∧ a < 1000000 ∧ ci ∈ cs ∧ k < fs.length ∧ gc_ok ty v = true then some (pc + 3, L, r, gc_up M a (.inl (ci, fs.set k v))) else none
    | _ => none
  | _ => none
/-- arrays of kind t: 0 int, 1 byte, 2 long, 3 boolean, 4 int[], 5 and on objects -/
def gc_lda (t : Nat) : gc_F := fun pc L st M => match st with
  | .int i :: .ref a :: r => match M.2.2 a with
    | .inr (t', n, .inl f) => if a < M.1 ∧ a < 1000000 ∧ t' = t ∧ ¬ (i < 0 ∨ n ≤ i.toNatClampNeg) then some (pc + 1, L, .int (f i.toNatClampNeg) :: r, M) else none
    | _ => none
  | _ => none
def gc_lld : gc_F := fun pc L st M => match st with
  | .int i :: .ref a :: r => match M.2.2 a with
    | .inr (t', n, .inr (.inl f)) => if a < M.1 ∧ a < 1000000 ∧ t' = 2 ∧ ¬ (i < 0 ∨ n ≤ i.toNatClampNeg) then some (pc + 1, L, .long (f i.toNatClampNeg) :: r, M) else none
    | _ => none
  | _ => none
def gc_ald (ts : List Nat) : gc_F := fun pc L st M => match st with
  | .int i :: .ref a :: r => match M.2.2 a with
    | .inr (t', n, .inr (.inr (.inr (.inr f)))) => if a < M.1 ∧ a < 1000000 ∧ t' ∈ ts ∧ ¬ (i < 0 ∨ n ≤ i.toNatClampNeg) then match f i.toNatClampNeg with
      | none => some (pc + 1, L, .null :: r, M)
      | some y => if y < 1000000 then some (pc + 1, L, .ref y :: r, M) else none
      else none
    | _ => none
  | _ => none
/-- a static array of ints or bytes: the j-th thing, its contents -/
def gc_slda (j n : Nat) (f : Nat → Int32) : gc_F := fun pc L st M => match st with
  | .int i :: .ref a :: r => if a = 1000000 + j ∧ ¬ (i < 0 ∨ n ≤ i.toNatClampNeg) then some (pc + 1, L, .int (f i.toNatClampNeg) :: r, M) else none
  | _ => none
def gc_sta (t : Nat) (nar : Int32 → Int32) : gc_F := fun pc L st M => match st with
  | .int x :: .int i :: .ref a :: r => match M.2.2 a with
    | .inr (t', n, .inl f) => if a < M.1 ∧ a < 1000000 ∧ t' = t ∧ ¬ (i < 0 ∨ n ≤ i.toNatClampNeg) then some (pc + 1, L, r, gc_up M a (.inr (t', n, .inl (upd f i.toNatClampNeg (nar x))))) else none
    | _ => none
  | _ => none
def gc_lst : gc_F := fun pc L st M => match st with
  | .long x :: .int i :: .ref a :: r => match M.2.2 a with
    | .inr (t', n, .inr (.inl f)) => if a < M.1 ∧ a < 1000000 ∧ t' = 2 ∧ ¬ (i < 0 ∨ n ≤ i.toNatClampNeg) then some (pc + 1, L, r, gc_up M a (.inr (t', n, .inr (.inl (vp_updL f i.toNatClampNeg x))))) else none
    | _ => none
  | _ => none
/-- a reference into an array of objects of the classes cs -/
def gc_ast (t : Nat) (cs : List Nat) : gc_F := fun pc L st M => match st with
  | .ref v :: .int i :: .ref a :: r => match M.2.2 a, M.2.2 v with
    | .inr (t', n, .inr (.inr (.inr (.inr f)))), .inl (ci, _) => if a < M.1 ∧ a < 1000000 ∧ v < M.1 ∧ v < 1000000 ∧ ci ∈ cs ∧ t' = t ∧ ¬ (i < 0 ∨ n ≤ i.toNatClampNeg) then some (pc + 1, L, r, gc_up M a (.inr (t', n, .inr (.inr (.inr (.inr (va_up f i.toNatClampNeg (some v)))))))) else none
    | _, _ => none
  | _ => none
def gc_alen : gc_F := fun pc L st M => match st with
  | .ref a :: r => match M.2.2 a with
    | .inr (t', n, _) => if a < M.1 ∧ a < 1000000 ∧ t' < 8 then some (pc + 1, L, .int (Int32.ofNat n) :: r, M) else none
    | _ => none
  | _ => none
def gc_salen (j n : Nat) : gc_F := fun pc L st M => match st with
  | .ref a :: r => if a = 1000000 + j then some (pc + 1, L, .int (Int32.ofNat n) :: r, M) else none
  | _ => none
/-- new arrays and objects -/
def gc_newa (t : Nat) (z : (Nat → Int32) ⊕ (Nat → Int64) ⊕ (Nat → UInt32) ⊕ (Nat → UInt64) ⊕ (Nat → Option Nat)) (n : Nat) : gc_F := fun pc L st M => match st with
  | .int x :: r => if ¬ x < 0 ∧ x.toNatClampNeg ≤ 1000 ∧ M.1 < 999000 then some (pc + n, L, .ref M.1 :: r, gc_push M x.toNatClampNeg (.inr (t, x.toNatClampNeg, z))) else none
  | _ => none
def gc_new (ci : Nat) (fs : List Value) : gc_F := fun pc L st M => if M.1 < 999000 then some (pc + 3, L, .ref M.1 :: st, gc_push M fs.length (.inl (ci, fs))) else none
def gc_mna : gc_F := fun pc L st M => match st with
  | .int k :: .int n :: r => if ¬ k < 0 ∧ ¬ n < 0 ∧ k.toNatClampNeg ≤ 1000 ∧ n.toNatClampNeg ≤ 1000 ∧ M.1 < 990000 then
      some (pc + 4, L, .ref M.1 :: r, (M.1 + (1 + n.toNatClampNeg), M.2.1 + (n.toNatClampNeg + n.toNatClampNeg * k.toNatClampNeg), fun j => if j = M.1 then .inr (4, n.toNatClampNeg, .inr (.inr (.inr (.inr (fun i => if i < n.toNatClampNeg then some (M.1 + 1 + i) else none))))) else if M.1 < j ∧ j < M.1 + (1 + n.toNatClampNeg) then .inr (0, k.toNatClampNeg, .inl (fun _ => 0)) else M.2.2 j)) else none
  | _ => none
/-- System.arraycopy of ints or longs -/
def gc_cpI : gc_F := fun pc L st M => match st with
  | .int n :: .int dp :: .ref b :: .int sp :: .ref a :: r => match M.2.2 a, M.2.2 b with
    | .inr (t, n0, .inl f), .inr (t', n1, .inl g) => if a < M.1 ∧ a < 1000000 ∧ b < M.1 ∧ b < 1000000 ∧ t = 0 ∧ t' = 0 ∧ ¬ sp < 0 ∧ ¬ dp < 0 ∧ ¬ n < 0 ∧ sp.toNatClampNeg + n.toNatClampNeg ≤ n0 ∧ dp.toNatClampNeg + n.toNatClampNeg ≤ n1 ∧ r = [] then some (pc + 3, L, r, gc_up M b (.inr (t', n1, .inl (va_cpy f g sp.toNatClampNeg dp.toNatClampNeg n.toNatClampNeg)))) else none
    | _, _ => none
  | _ => none
def gc_cpL : gc_F := fun pc L st M => match st with
  | .int n :: .int dp :: .ref b :: .int sp :: .ref a :: r => match M.2.2 a, M.2.2 b with
    | .inr (t, n0, .inr (.inl f)), .inr (t', n1, .inr (.inl g)) => if a < M.1 ∧ a < 1000000 ∧ b < M.1 ∧ b < 1000000 ∧ t = 2 ∧ t' = 2 ∧ ¬ sp < 0 ∧ ¬ dp < 0 ∧ ¬ n < 0 ∧ sp.toNatClampNeg + n.toNatClampNeg ≤ n0 ∧ dp.toNatClampNeg + n.toNatClampNeg ≤ n1 ∧ r = [] then some (pc + 3, L, r, gc_up M b (.inr (t', n1, .inr (.inl (va_cpy f g sp.toNatClampNeg dp.toNatClampNeg n.toNatClampNeg))))) else none
    | _, _ => none
  | _ => none
/-- Math.min, Math.max -/
def gc_mm (op : Int32 → Int32 → Int32) : gc_F := fun pc L st M => match st with
  | .int y :: .int x :: r => if (r.map Value.category).sum ≤ 8 then some (pc + 3, L, .int (op x y) :: r, M) else none
  | _ => none
/-- the superclass's constructor that does nothing -/
def gc_oi : gc_F := fun pc L st M => match st with
  | .ref a :: r => if a < M.1 ∧ a < 1000000 ∧ (r.map Value.category).sum ≤ 8 then some (pc + 3, L, r, M) else none
  | _ => none
/-- calls: n arguments besides the receiver -/
def gc_cs (m2 n : Nat) : gc_G := fun st _ => if n ≤ st.length ∧ ((st.drop n).map Value.category).sum ≤ 8 then some (m2, (st.take n).reverse, st.drop n) else none
def gc_cv (n : Nat) (tab : List (Nat × Nat)) : gc_G := fun st M => match st[n]? with
  | some (.ref a) => match M.2.2 a with
    | .inl (ci, _) => match tab.lookup ci with
      | some m2 => if a < M.1 ∧ a < 1000000 ∧ ((st.drop (n + 1)).map Value.category).sum ≤ 8 then some (m2, (st.take (n + 1)).reverse, st.drop (n + 1)) else none
      | none => none
    | _ => none
  | _ => none
/-- a call of a text's method -/
def gc_ct (m2 n : Nat) : gc_G := fun st _ => match st[n]? with
  | some (.ref a) => if 1000000 ≤ a ∧ a < 1000006 ∧ ((st.drop (n + 1)).map Value.category).sum ≤ 8 then some (m2, (st.take (n + 1)).reverse, st.drop (n + 1)) else none
  | _ => none
/-- a text's value and coder -/
def gc_txv : gc_F := fun pc L st M => match st with
  | .ref a :: r => if 1000000 ≤ a ∧ a < 1000006 then some (pc + 3, L, .ref (a + 10) :: r, M) else none
  | _ => none
def gc_txc : gc_F := fun pc L st M => match st with
  | .ref a :: r => if 1000000 ≤ a ∧ a < 1000006 then some (pc + 3, L, .int 0 :: r, M) else none
  | _ => none
def gc_txb (j : Nat) : List Int32 := ([[98, 101, 97, 114], [104, 97, 110, 103], [115, 116, 114, 111, 110, 103], [119, 101, 97, 107], [112, 107, 118, 120, 103, 104], [60, 61, 62]] : List (List Int32)).getD j []
def gc_txl : gc_F := fun pc L st M => match st with
  | .ref a :: r => if 1000010 ≤ a ∧ a < 1000016 then some (pc + 1, L, .int (Int32.ofNat (gc_txb (a - 1000010)).length) :: r, M) else none
  | _ => none
def gc_txa : gc_F := fun pc L st M => match st with
  | .int i :: .ref a :: r => if 1000010 ≤ a ∧ a < 1000016 ∧ ¬ (i < 0 ∨ (gc_txb (a - 1000010)).length ≤ i.toNatClampNeg) then some (pc + 1, L, .int ((gc_txb (a - 1000010)).getD i.toNatClampNeg 0) :: r, M) else none
  | _ => none
def gc_rv : gc_R := fun st => match st with
  | [] => some none
  | _ => none
def gc_ri : gc_R := fun st => match st with
  | .int x :: [] => some (some (.int x))
  | _ => none
/-- an int of a narrower type -/
def gc_rn (ty : FieldType) : gc_R := fun st => match st with
  | .int x :: [] => if vp_nar ty x = x then some (some (.int x)) else none
  | _ => none
def gc_rl : gc_R := fun st => match st with
  | .long x :: [] => some (some (.long x))
  | _ => none
