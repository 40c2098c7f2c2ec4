/-! a step, a call, at the machine's level; a picture by another memory -/
section
variable {g : gx_T} {P : Nat → Nat → Option gc_E} {md : Nat → gx_Y} {mid pc : Nat} {L : gc_L} {st : List Value} {M : gc_M}
variable {p : Program} {l : Launch} {e : Env} {R : Room} {s : State} {m : MethodId} {args : Array Value} {below : List Frame} {meth : Method} {c : Code} {H : Heap} {locs : List Loc} {cells slots : Nat} {Q : State → Prop} {ls : Array Slot}
theorem gx_go {f : gc_F} {pc' : Nat} {L' : gc_L} {st' : List Value} {M1 : gc_M} (hT : gx_Tb g P md) (hp : P mid pc = some (.inl f)) (hf : f pc L st M = some (pc', L', st', M1)) (hC : gx_C g (md mid).1.cls (md mid).2.1 (md mid).2.2.1 (md mid).2.2.2 (md mid).1.name p s m args meth c) (hI : gx_I g (md mid).2.2.1 s L M H locs cells ls) (h1 : 1 ≤ R.frames) (h2 : 64 ≤ R.locals) (h3 : cells + (M1.1 - M.1) ≤ R.cells) (h4 : slots + (M1.2.1 - M.2.1) ≤ R.slots)
    (kk : ∀ (H1 : Heap) (locs1 : List Loc) (ls1 : Array Slot), gx_I g (md mid).2.2.1 s L' M1 H1 locs1 (cells + (M1.1 - M.1)) ls1 → W p l e R s m args below meth c H1 locs1 (cells + (M1.1 - M.1)) (slots + (M1.2.1 - M.2.1)) Q (F0 m pc' ls1 (st'.map (gx_v g)))) : W p l e R s m args below meth c H locs cells slots Q (F0 m pc ls (st.map (gx_v g))) := by
  obtain ⟨-, hE⟩ := hT mid pc _ hp
  obtain ⟨-, -, a3⟩ := hE L st M pc' L' st' M1 hf
  exact a3 hC hI h1 h2 h3 h4 kk
set_option maxHeartbeats 4000000 in
theorem gx_gc {f : gc_G} {m2 n d' : Nat} {as rest : List Value} {r2 : Option Value} {M2 : gc_M} (hT : gx_Tb g P md) (hp : P mid pc = some (.inr (.inl f))) (hg : f st M = some (m2, as, rest)) (hlen : (gc_arg as).length ≤ (md m2).2.2.1) (hr : gc_run P (fun k => (md k).2.2.1) n d' m2 0 (gc_ini as (md m2).2.2.1) [] M = some (r2, M2)) (hC : gx_C g (md mid).1.cls (md mid).2.1 (md mid).2.2.1 (md mid).2.2.2 (md mid).1.name p s m args meth c) (hI : gx_I g (md mid).2.2.1 s L M H locs cells ls) (hfr : d' + 1 + 1 ≤ R.frames) (hlo : 64 * (d' + 1 + 1) ≤ R.locals) (hce : cells + (M2.1 - M.1) ≤ R.cells) (hsl : slots + (M2.2.1 - M.2.1) ≤ R.slots)
    (kk : ∀ (H2 : Heap) (locs2 : List Loc), gx_I g (md mid).2.2.1 s L M2 H2 locs2 (cells + (M2.1 - M.1)) ls → W p l e R s m args below meth c H2 locs2 (cells + (M2.1 - M.1)) (slots + (M2.2.1 - M.2.1)) Q (F0 m (pc + 3) ls ((r2.toList ++ rest).map (gx_v g)))) : W p l e R s m args below meth c H locs cells slots Q (F0 m pc ls (st.map (gx_v g))) := by
  obtain ⟨-, hE⟩ := hT mid pc _ hp
  obtain ⟨a1, a2, apl, a3⟩ := gx_sound hT n d' m2 0 _ [] M r2 M2 hr
  obtain ⟨c1, c2⟩ := hE st M m2 as rest hg
  have hMet : gx_M l g (md m2) d' (M2.1 - M.1) (M2.2.1 - M.2.1) as M r2 M2 := by
    refine Met.ofW (cc := (md m2).2.1) (maxL := (md m2).2.2.1) (ret := (md m2).2.2.2) apl rfl ?_
    intro p e s m args below meth c s₁ B hml hP
    obtain ⟨rfl, hP1, hP2, hG⟩ := hP
    have hts := atoms_spec (ws := Cond.code (md m2).1 (md m2).2.1 (md m2).2.2.1 (md m2).2.2.2 :: gx_WS) B.pre
    have hC2 : gx_C g (md m2).1.cls (md m2).2.1 (md m2).2.2.1 (md m2).2.2.2 (md m2).1.name p s m (as.map (gx_v g)).toArray meth c :=
      ⟨B.exec, B.bytes, hml, findClass_of_methodNamed B.named, fun w hw => hts w (List.mem_cons_of_mem _ hw), B.returns, B.notSynchronized, (name_of_methodNamed B.named B.method).1, hG, by rw [hP2]; exact Nat.le_add_right _ _⟩
    rw [lg_entry_eq]
    have w := a3 (l := l) (e := e) (R := gx_rm d' (M2.1 - M.1) (M2.2.1 - M.2.1)) (below := below) (slots := 0) hC2 ⟨hP1, hP2, rfl, gx_entry g hlen, va_S.rf⟩ (Nat.le_refl _) (Nat.le_refl _) (by rw [Nat.zero_add]; exact Nat.le_refl _) (by rw [Nat.zero_add]; exact Nat.le_refl _)
    rw [Nat.zero_add, Nat.zero_add] at w
    exact w
  have hR := c2 hC hI hMet hfr hlo hce hsl (e := e) (below := below)
  intro T hTh X
  obtain ⟨v, st₀, t, T', L2, h0, X', hL, e1, e2, hQ, hgo⟩ := hR T hTh X
  obtain ⟨q1, q2, q3, q4⟩ := hQ
  cases q1
  have hs1 := hI.2.1
  have hs2 := hI.2.2.1
  have hs3 := hC.2.2.2.2.2.2.2.2.2
  have hI2 : gx_I g (md mid).2.2.1 s L M2 T'.heap (locs ++ L2) (cells + (M2.1 - M.1)) ls := by
    refine ⟨by rw [e1]; exact q2, by rw [e1]; exact q3, by rw [e1, q3]; omega, hI.2.2.2.1, by rw [e1, q3]; omega, fun q h1 h2 => ?_, fun q hq => ?_⟩
    · rw [e1, q4 q (Nat.lt_of_not_le h2), h0]
      exact hI.2.2.2.2.2.1 q h1 h2
    · rcases List.mem_append.mp hq with h | h
      · exact hI.2.2.2.2.2.2 q h
      · exact hL q h
  have w := kk T'.heap (locs ++ L2) hI2
  have e5 : (r2.toList ++ rest).map (gx_v g) = (r2.map (gx_v g)).toList ++ rest.map (gx_v g) := by
    cases r2 <;> simp
  rw [e5] at w
  obtain ⟨t2, a, b⟩ := w T' rfl X'
  exact ⟨t2, hgo t2 a, b⟩
end
theorem z_v_eq : ∀ {x y : Value}, z_v x y = true → x = y := by
  intro x y h
  cases x <;> cases y <;> first | (cases h; done) | rfl | (exact congrArg _ (of_decide_eq_true h))
theorem z_vs_eq : ∀ {x y : List Value}, z_vs x y = true → x = y
  | [], [], _ => rfl
  | [], _ :: _, h => by cases h
  | _ :: _, [], h => by cases h
  | a :: r, b :: t, h => by
    unfold z_vs at h
    rw [Bool.and_eq_true] at h
    rw [z_v_eq h.1, z_vs_eq h.2]
theorem arrV_cg {cI : ClassId} {N : Nat} {f f' : Nat → Value} (h : ∀ i, i < N → f i = f' i) : arrV cI N f = arrV cI N f' := by
  unfold arrV
  congr 1
  exact congrArg Array.ofFn (funext fun j => h j.val j.isLt)
theorem z_rng {n : Nat} {α : Type} {f f' : Nat → α} [DecidableEq α] (h : (List.range n).all (fun i => decide (f i = f' i)) = true) : ∀ i, i < n → f i = f' i := fun i hi => of_decide_eq_true (List.all_eq_true.mp h i (List.mem_range.mpr hi))
theorem z_c_at {g : gx_T} {a : Nat} {x y : gc_C} {H : Heap} (h : z_c x y = true) (hx : va_at (gx_D g) vwCl (a, gx_c g x) H) : va_at (gx_D g) vwCl (a, gx_c g y) H := by
  unfold z_c at h
  split at h
  · rw [Bool.and_eq_true] at h
    rw [← of_decide_eq_true h.1, ← z_vs_eq h.2]
    exact hx
  · rename_i t n f t' n' f'
    rw [Bool.and_eq_true, Bool.and_eq_true] at h
    obtain ⟨⟨h1, h2⟩, h3⟩ := h
    rw [← of_decide_eq_true h1, ← of_decide_eq_true h2]
    have e := z_rng h3
    have q : arrV (gx_d g t) n (fun j => Value.int (f j)) = arrV (gx_d g t) n (fun j => Value.int (f' j)) := arrV_cg (fun i hi => by rw [e i hi])
    have hx : H[a]? = some (arrV (gx_d g t) n (fun j => Value.int (f j))) := hx
    rw [q] at hx
    exact hx
  · rename_i t n f t' n' f'
    rw [Bool.and_eq_true, Bool.and_eq_true] at h
    obtain ⟨⟨h1, h2⟩, h3⟩ := h
    rw [← of_decide_eq_true h1, ← of_decide_eq_true h2]
    have e := z_rng h3
    have q : arrV (gx_d g t) n (fun j => Value.long (f j)) = arrV (gx_d g t) n (fun j => Value.long (f' j)) := arrV_cg (fun i hi => by rw [e i hi])
    have hx : H[a]? = some (arrV (gx_d g t) n (fun j => Value.long (f j))) := hx
    rw [q] at hx
    exact hx
  · rename_i t n f t' n' f'
    rw [Bool.and_eq_true, Bool.and_eq_true] at h
    obtain ⟨⟨h1, h2⟩, h3⟩ := h
    rw [← of_decide_eq_true h1, ← of_decide_eq_true h2]
    have e := z_rng h3
    have q : arrV (gx_d g t) n (fun j => va_rf ((f j).map (fun k => gx_b g + k))) = arrV (gx_d g t) n (fun j => va_rf ((f' j).map (fun k => gx_b g + k))) := arrV_cg (fun i hi => by rw [e i hi])
    have hx : H[a]? = some (arrV (gx_d g t) n (fun j => va_rf ((f j).map (fun k => gx_b g + k)))) := hx
    rw [q] at hx
    exact hx
  · cases h
theorem z_pic {g : gx_T} {M M' : gc_M} {H : Heap} (h1 : M.1 = M'.1) (h : ∀ a, a < M.1 → z_c (M.2.2 a) (M'.2.2 a) = true) (hx : va_P (gx_D g) vwCl (gx_w g M) H) : va_P (gx_D g) vwCl (gx_w g M') H := by
  intro k q hq
  by_cases hk : k < M'.1
  · rw [gx_w_get g hk] at hq
    cases hq
    exact z_c_at (h k (by omega)) (hx k _ (gx_w_get g (by omega)))
  · have hl : (gx_w g M').length = M'.1 := by simp [gx_w]
    rw [List.getElem?_eq_none (by omega)] at hq
    cases hq
theorem z_M4 : in_M4.1 = 192 ∧ in_M4.2.1 = 5364 ∧ ∀ a, a < 192 → z_c (in_M4.2.2 a) ((gm_m z0).2.2 a) = true := by
  have h := z_ok_t
  unfold z_ok at h
  rw [Bool.and_eq_true, Bool.and_eq_true] at h
  obtain ⟨h1, h2, h3⟩ := h
  refine ⟨of_decide_eq_true h1, of_decide_eq_true h2, fun a ha => ?_⟩
  rw [gm_at ha]
  exact List.all_eq_true.mp h3 a (List.mem_range.mpr ha)
theorem z_I {g : gx_T} {nL : Nat} {s : State} {L : gc_L} {H : Heap} {locs : List Loc} {cells : Nat} {ls : Array Slot} (h : gx_I g nL s L in_M4 H locs cells ls) : gx_I g nL s L (gm_m z0) H locs cells ls := by
  obtain ⟨h1, h2, h3, h4, h5⟩ := h
  have e : in_M4.1 = (gm_m z0).1 := z_M4.1
  exact ⟨z_pic e (fun a ha => z_M4.2.2 a (by rw [← z_M4.1]; exact ha)) h1, by rw [← e]; exact h2, h3, h4, h5⟩
