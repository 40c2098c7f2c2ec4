/-! the state behind the constructors -/
def z0_i (b j : Nat) : Int32 :=
  if b = 156 then (if j < 18 then nI (kLt j) else 0)
  else if b = 84 ∨ b = 102 ∨ b = 120 ∨ b = 138 then (if j < 4 then 2 else 0)
  else if b = 188 then (if j < 6 then -1 else 0)
  else if b = 137 then (if j = 14 ∨ j = 49 then -1 else if j = 31 then 9999 else 0)
  else if (28 ≤ b ∧ b < 52 ∧ b % 4 = 0) ∨ b = 79 then (if j = 0 then 12 else if j = 1 then 2 else 0)
  else if 52 ≤ b ∧ b < 64 ∧ b % 2 = 0 then (if j = 0 then -1 else 0)
  else 0
def z0_r (b j : Nat) : Option Nat := if (b = 83 ∨ b = 101 ∨ b = 119) ∧ j = 1 then some 79 else none
def z0 : gm_S := (z0_i, z0_r, fun _ _ => 0)
/-- the same cell, as far as it goes -/
def z_v : Value → Value → Bool
  | .int x, .int y => decide (x = y)
  | .ref x, .ref y => decide (x = y)
  | .null, .null => true
  | _, _ => false
def z_vs : List Value → List Value → Bool
  | [], [] => true
  | x :: r, y :: t => z_v x y && z_vs r t
  | _, _ => false
def z_c : gc_C → gc_C → Bool
  | .inl (ci, fs), .inl (ci', fs') => decide (ci = ci') && z_vs fs fs'
  | .inr (t, n, .inl f), .inr (t', n', .inl g) => decide (t = t') && decide (n = n') && (List.range n).all (fun i => decide (f i = g i))
  | .inr (t, n, .inr (.inl f)), .inr (t', n', .inr (.inl g)) => decide (t = t') && decide (n = n') && (List.range n).all (fun i => decide (f i = g i))
  | .inr (t, n, .inr (.inr (.inr (.inr f)))), .inr (t', n', .inr (.inr (.inr (.inr g)))) => decide (t = t') && decide (n = n') && (List.range n).all (fun i => decide (f i = g i))
  | _, _ => false
def z_ok : Bool := decide (in_M4.1 = 192) && (decide (in_M4.2.1 = 5364) && (List.range 192).all (fun a => z_c (in_M4.2.2 a) (gm_mk z0 a (gm_sh a))))
set_option maxRecDepth 100000 in
theorem z_ok_t : z_ok = true := by decide +kernel
theorem z0_inv : gInv z0 := by
  refine ⟨⟨[], ((0, 0, 0), (fun o j => if o = 17 then (if j = 0 then 12 else 2) else z0_i (83 + o) j), fun _ => 30), none, [], 79, [], [], [], ?_, ?_, ?_, Or.inl ⟨rfl, rfl⟩⟩, ⟨0, fun _ => 0, kTx_0 rfl rfl⟩, ⟨none, [], ⟨rfl, rfl⟩, rfl, Nat.zero_le _, fun i x hx => (by cases hx)⟩, fun t ht => ?_⟩
  · refine ⟨rfl, rfl, Nat.zero_le _, ⟨⟨⟨rfl, Nat.zero_le _, fun i k hk => (by cases hk)⟩, rfl, rfl⟩, ?_, fun k cs hk => (by cases hk)⟩, fun k cs hk => (by cases hk)⟩
    intro i hi
    show (if i < 18 then nI (kLt i) else 0) = nI (kLt i)
    rw [if_pos hi]
  · refine ⟨⟨rfl, rfl⟩, ⟨⟨Nat.zero_le _, Nat.zero_le _, by decide, fun c hc => absurd hc (Nat.not_lt_zero _)⟩, ⟨by decide, fun t ht => absurd ht (Nat.not_lt_zero _), fun c hc => absurd hc (Nat.not_lt_zero _)⟩, fun t ht => absurd ht (Nat.not_lt_zero _), fun t ht => absurd ht (Nat.not_lt_zero _), ⟨fun c hc => (by cases hc), fun k hk => (by cases hk), Nat.zero_le _, Nat.zero_le _⟩, Nat.zero_le _, fun fx => rfl, rfl, rfl⟩, ?_, ?_⟩
    · refine ⟨Or.inl rfl, by unfold gF_is; omega, rfl, ⟨rfl, Nat.zero_le _, fun i hi => absurd hi (Nat.not_lt_zero _)⟩, rfl, rfl, rfl, fun o j ho => ?_, rfl, rfl, fun fx => rfl⟩
      have ho' : o ≠ 17 := by
        have ho : (o = 1 ∧ j < 4) ∨ ((o = 2 ∨ o = 3 ∨ o = 4) ∧ j < 0) ∨ (6 ≤ o ∧ o < 6 + 0 ∧ j < 4) ∨ (12 ≤ o ∧ o ≤ 16 ∧ j < 0) := ho
        omega
      show z0_i (83 + o) j = if o = 17 then _ else _
      rw [if_neg ho']
    · refine ⟨⟨rfl, rfl, rfl, fun k hk => rfl, fun c hc => absurd hc (Nat.not_lt_zero _), fun t ht => absurd ht (Nat.not_lt_zero _)⟩, ⟨rfl, rfl⟩, rfl, fun c hc => absurd hc (Nat.not_lt_zero _), fun fx => rfl, rfl, rfl⟩
  · refine ⟨⟨⟨rfl, Nat.zero_le _, fun i r hr => (by cases hr)⟩, ⟨rfl, Nat.zero_le _, fun i r hr => (by cases hr)⟩, fun r hr => (by cases hr)⟩, ⟨⟨rfl, Nat.zero_le _, fun i r hr => (by cases hr)⟩, ⟨rfl, Nat.zero_le _, fun i r hr => (by cases hr)⟩, fun r hr => (by cases hr)⟩, ⟨⟨rfl, Nat.zero_le _, fun i r hr => (by cases hr)⟩, ⟨rfl, Nat.zero_le _, fun i r hr => (by cases hr)⟩, fun r hr => (by cases hr)⟩⟩
  · refine ⟨-1, 0, ?_, ?_, ?_, rfl, Nat.zero_le _, Or.inl ⟨rfl, rfl⟩, fun i hi => rfl⟩ <;>
      (match t, ht with | 0, _ | 1, _ | 2, _ | 3, _ | 4, _ | 5, _ => rfl)
