/-! the constructors' run: in the kernel, without the law's own code -/
theorem gc_run_P {P P' : Nat → Nat → Option gc_E} {nl : Nat → Nat} (hP : ∀ mid pc e, P mid pc = some e → P' mid pc = some e) : ∀ (n : Nat) (d mid pc : Nat) (L : gc_L) (st : List Value) (M : gc_M) (x : Option Value × gc_M), gc_run P nl n d mid pc L st M = some x → gc_run P' nl n d mid pc L st M = some x
  | 0, _, _, _, _, _, _, _, h => by simp [gc_run] at h
  | n + 1, d, mid, pc, L, st, M, x, h => by
    rw [gc_run] at h ⊢
    cases hp : P mid pc with
    | none => rw [hp] at h; simp at h
    | some e =>
      rw [hp] at h
      rw [hP _ _ _ hp]
      obtain f | g | k := e
      · dsimp only at h ⊢
        cases hf : f pc L st M with
        | none => rw [hf] at h; simp at h
        | some y =>
          rw [hf] at h
          obtain ⟨pc', L', st', M'⟩ := y
          exact gc_run_P hP n d mid pc' L' st' M' x h
      · cases d with
        | zero => simp at h
        | succ d' =>
          dsimp only at h ⊢
          cases hg : g st M with
          | none => rw [hg] at h; simp at h
          | some y =>
            rw [hg] at h
            obtain ⟨m2, as, rest⟩ := y
            dsimp only at h ⊢
            split at h
            case isFalse => cases h
            rename_i hlen
            rw [if_pos hlen]
            cases hr : gc_run P nl n d' m2 0 (gc_ini as (nl m2)) [] M with
            | none => rw [hr] at h; simp at h
            | some z =>
              rw [hr] at h
              obtain ⟨r, M2⟩ := z
              rw [gc_run_P hP n d' m2 0 (gc_ini as (nl m2)) [] M (r, M2) hr]
              exact gc_run_P hP n (d' + 1) mid (pc + 3) L (r.toList ++ rest) M2 x h
      · exact h
def in_P (mid pc : Nat) : Option gc_E := if mid < 217 then gc_P 0 (fun _ => 0) mid pc else none
set_option maxRecDepth 20000 in
theorem in_tk (n : Nat) (xs : Nat → Int32) : (gc_cdl n xs).take 217 = (gc_cdl 0 (fun _ => 0)).take 217 := rfl
theorem in_PP (w : Nat × (Nat → Int32)) (mid pc : Nat) (e : gc_E) (h : in_P mid pc = some e) : gc_P w.1 w.2 mid pc = some e := by
  unfold in_P at h
  by_cases hm : mid < 217
  · rw [if_pos hm] at h
    rw [← h]
    have e1 : (gc_cdl w.1 w.2)[mid]? = (gc_cdl 0 (fun _ => 0))[mid]? := by
      have q1 : ((gc_cdl w.1 w.2).take 217)[mid]? = (gc_cdl w.1 w.2)[mid]? := List.getElem?_take_of_lt hm
      have q2 : ((gc_cdl 0 (fun _ => 0)).take 217)[mid]? = (gc_cdl 0 (fun _ => 0))[mid]? := List.getElem?_take_of_lt hm
      rw [← q1, ← q2, in_tk]
    unfold gc_P
    rw [List.getD_eq_getElem?_getD, List.getD_eq_getElem?_getD, e1]
  · rw [if_neg hm] at h
    cases h
def in_M0 : gc_M := (0, 0, fun _ => .inl (0, []))
def in_M1 : gc_M := match gc_new 11 [.null, .null, .null, .null, .null, .null, .null, .null, .null, .int 0, .null, .int 0, .null, .int 0, .null, .null, .null] 0 [none, none, none, none] [] in_M0 with
  | some (_, _, _, M) => M
  | none => in_M0
def in_R : Option (Option Value × gc_M) := gc_run in_P gc_nl 2000 40 65 0 [some (.ref 0), none, none] [] in_M1
def in_M2 : gc_M := match in_R with
  | some (_, M) => M
  | none => in_M0
def in_N (x : Option (Option Value × gc_M)) : Bool := match x with
  | some (r, _) => r.isNone
  | none => false
theorem in_t1 : in_N in_R = true := by decide +kernel
theorem in_t2 : in_M2.1 = 137 := by decide +kernel
theorem in_r1 (w : Nat × (Nat → Int32)) : gc_run (gc_P w.1 w.2) gc_nl 2000 40 65 0 [some (.ref 0), none, none] [] in_M1 = some (none, in_M2) := by
  refine gc_run_P (in_PP w) 2000 40 65 0 _ [] in_M1 (none, in_M2) ?_
  have h := in_t1
  unfold in_M2
  show in_R = _
  cases e : in_R with
  | none =>
    rw [e] at h
    cases h
  | some y =>
    rw [e] at h
    obtain ⟨r, M⟩ := y
    cases r with
    | none => rfl
    | some v => cases h
