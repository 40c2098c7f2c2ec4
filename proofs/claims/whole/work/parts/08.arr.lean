/-! rows: arrays, new cells, calls of the library's own that are one instruction here -/
theorem gs_iaload {g : gx_T} {own : String} {cc : ByteArray} {nL : Nat} {rt : Option FieldType} {nm : String} {pc : Nat} (hd : decode cc pc = .ok (.iaload, 1)) : gx_N g own cc nL rt nm pc (gc_lda 0) := gx_easy (fun L st M x h => by
  unfold gc_lda at h
  split at h
  · rename_i i a r
    split at h
    · rename_i t' n f hM
      split at h
      · rename_i hh
        obtain ⟨ha, ha2, ht, hin⟩ := hh
        subst ht
        cases h
        refine ⟨rfl, rfl, fun hC hI _ _ _ _ k2 => ?_⟩
        have hw := gx_w_get g ha
        rw [hM] at hw
        rw [List.map_cons, List.map_cons, show gx_v g (.ref a) = .ref (gx_b g + a) from if_pos ha2]
        exact va_iald hC.1 hC.2.1 hC.2.2.2.2.2.2.2.2.1.1 hI.1 a 0 hw rfl hin hd k2
      · cases h
    · cases h
  · cases h)
theorem gs_baload {g : gx_T} {own : String} {cc : ByteArray} {nL : Nat} {rt : Option FieldType} {nm : String} {pc : Nat} (hd : decode cc pc = .ok (.baload, 1)) : gx_N g own cc nL rt nm pc (gc_lda 1) := gx_easy (fun L st M x h => by
  unfold gc_lda at h
  split at h
  · rename_i i a r
    split at h
    · rename_i t' n f hM
      split at h
      · rename_i hh
        obtain ⟨ha, ha2, ht, hin⟩ := hh
        subst ht
        cases h
        refine ⟨rfl, rfl, fun hC hI _ _ _ _ k2 => ?_⟩
        have hw := gx_w_get g ha
        rw [hM] at hw
        rw [List.map_cons, List.map_cons, show gx_v g (.ref a) = .ref (gx_b g + a) from if_pos ha2]
        exact va_bald hC.1 hC.2.1 hC.2.2.2.2.2.2.2.2.1.1 hI.1 a 1 hw rfl hin hd k2
      · cases h
    · cases h
  · cases h)
theorem gs_zaload {g : gx_T} {own : String} {cc : ByteArray} {nL : Nat} {rt : Option FieldType} {nm : String} {pc : Nat} (hd : decode cc pc = .ok (.baload, 1)) : gx_N g own cc nL rt nm pc (gc_lda 3) := gx_easy (fun L st M x h => by
  unfold gc_lda at h
  split at h
  · rename_i i a r
    split at h
    · rename_i t' n f hM
      split at h
      · rename_i hh
        obtain ⟨ha, ha2, ht, hin⟩ := hh
        subst ht
        cases h
        refine ⟨rfl, rfl, fun hC hI _ _ _ _ k2 => ?_⟩
        have hw := gx_w_get g ha
        rw [hM] at hw
        rw [List.map_cons, List.map_cons, show gx_v g (.ref a) = .ref (gx_b g + a) from if_pos ha2]
        exact va_zald hC.1 hC.2.1 hC.2.2.2.2.2.2.2.2.1.1 hI.1 a 3 hw rfl hin hd k2
      · cases h
    · cases h
  · cases h)
theorem gs_laload {g : gx_T} {own : String} {cc : ByteArray} {nL : Nat} {rt : Option FieldType} {nm : String} {pc : Nat} (hd : decode cc pc = .ok (.laload, 1)) : gx_N g own cc nL rt nm pc gc_lld := gx_easy (fun L st M x h => by
  unfold gc_lld at h
  split at h
  · rename_i i a r
    split at h
    · rename_i t' n f hM
      split at h
      · rename_i hh
        obtain ⟨ha, ha2, ht, hin⟩ := hh
        subst ht
        cases h
        refine ⟨rfl, rfl, fun hC hI _ _ _ _ k2 => ?_⟩
        have hw := gx_w_get g ha
        rw [hM] at hw
        rw [List.map_cons, List.map_cons, show gx_v g (.ref a) = .ref (gx_b g + a) from if_pos ha2]
        exact va_lald hC.1 hC.2.1 hC.2.2.2.2.2.2.2.2.1.1 hI.1 a 2 hw rfl hin hd k2
      · cases h
    · cases h
  · cases h)
/-- arrays of references: of objects (kinds 5, 6, 7), or of arrays of ints (4) -/
theorem gx_aald {g : gx_T} {own : String} {cc : ByteArray} {nL : Nat} {rt : Option FieldType} {nm : String} {pc : Nat} {p : Program} {l : Launch} {e : Env} {R : Room} {s : State} {m : MethodId} {args : Array Value} {below : List Frame} {meth : Method} {c : Code} {H : Heap} {locs : List Loc} {cells slots : Nat} {Q : State → Prop} {ls : Array Slot} {L : gc_L} {M : gc_M} {a t n : Nat} {f : Nat → Option Nat} {i : Int32} {rest : List Value}
    (hC : gx_C g own cc nL rt nm p s m args meth c) (hI : gx_I g nL s L M H locs cells ls) (ha : a < M.1) (hM : M.2.2 a = .inr (t, n, .inr (.inr (.inr (.inr f))))) (ht : 4 ≤ t ∧ t < 8) (hin : ¬ (i < 0 ∨ n ≤ i.toNatClampNeg)) (hd : decode cc pc = .ok (.aaload, 1))
    (k2 : W p l e R s m args below meth c H locs cells slots Q (F0 m (pc + 1) ls (va_rf ((f i.toNatClampNeg).map (fun k => gx_b g + k)) :: rest))) : W p l e R s m args below meth c H locs cells slots Q (F0 m pc ls (.int i :: .ref (gx_b g + a) :: rest)) := by
  have hw := gx_w_get g ha
  rw [hM] at hw
  have hlt : i.toNatClampNeg < n := Nat.not_le.mp fun q => hin (Or.inr q)
  have hK := hC.2.2.2.2.2.2.2.2.1.1
  have key : ∃ ty : FieldType, ty.isReference = true ∧ (gx_tys g)[t]? = some (gx_d g t, ty) := by
    obtain ⟨h4, h8⟩ := ht
    match t, h4, h8 with
    | 4, _, _ => exact ⟨_, rfl, rfl⟩
    | 5, _, _ => exact ⟨_, rfl, rfl⟩
    | 6, _, _ => exact ⟨_, rfl, rfl⟩
    | 7, _, _ => exact ⟨_, rfl, rfl⟩
    | t + 8, _, h => exact absurd h (by omega)
  obtain ⟨ty, h1, h2⟩ := key
  exact W.aald (ty := ty) hC.1 hC.2.1 (hI.1 a _ hw) ((hK.2 t _ h2).1 n (fun j => va_rf ((f j).map (fun k => gx_b g + k)))) h1 (fun q => by cases q) (by show ¬ (i < 0 ∨ (arrV _ _ _).slots.size ≤ _); rw [arrV_size]; exact hin) (by show (arrV _ _ _).slots[_]? = _; rw [arrV_read _ _ hlt]) rfl rfl hd k2
theorem gs_aaload {g : gx_T} {own : String} {cc : ByteArray} {nL : Nat} {rt : Option FieldType} {nm : String} {pc : Nat} {ts : List Nat} (hts : ts.all (fun t => decide (4 ≤ t ∧ t < 8)) = true) (hd : decode cc pc = .ok (.aaload, 1)) : gx_N g own cc nL rt nm pc (gc_ald ts) := gx_easy (fun L st M x h => by
  unfold gc_ald at h
  split at h
  · rename_i i a r
    split at h
    · rename_i t' n f hM
      split at h
      · rename_i hh
        obtain ⟨ha, ha2, ht, hin⟩ := hh
        have htt := of_decide_eq_true (List.all_eq_true.mp hts _ ht)
        split at h
        · rename_i hf
          cases h
          refine ⟨rfl, rfl, fun hC hI _ _ _ _ k2 => ?_⟩
          rw [List.map_cons, List.map_cons, show gx_v g (.ref a) = .ref (gx_b g + a) from if_pos ha2]
          exact gx_aald hC hI ha hM htt hin hd (by rw [hf]; exact k2)
        · rename_i y hf
          split at h
          · rename_i hy
            cases h
            refine ⟨rfl, rfl, fun hC hI _ _ _ _ k2 => ?_⟩
            rw [List.map_cons, show gx_v g (.ref y) = .ref (gx_b g + y) from if_pos hy] at k2
            rw [List.map_cons, List.map_cons, show gx_v g (.ref a) = .ref (gx_b g + a) from if_pos ha2]
            exact gx_aald hC hI ha hM htt hin hd (by rw [hf]; exact k2)
          · cases h
      · cases h
    · cases h
  · cases h)
theorem gs_iastore {g : gx_T} {own : String} {cc : ByteArray} {nL : Nat} {rt : Option FieldType} {nm : String} {pc : Nat} (hd : decode cc pc = .ok (.iastore, 1)) : gx_N g own cc nL rt nm pc (gc_sta 0 (fun x => x)) := gx_mem1 (fun L st M x h => by
  unfold gc_sta at h
  split at h
  · rename_i v i a r
    split at h
    · rename_i t' n f hM
      split at h
      · rename_i hh
        obtain ⟨ha, ha2, ht, hin⟩ := hh
        subst ht
        cases h
        refine ⟨a, _, ha, rfl, rfl, fun hC hI _ _ k2 => ?_⟩
        have hw := gx_w_get g ha
        rw [hM] at hw
        rw [List.map_cons, List.map_cons, List.map_cons, show gx_v g (.ref a) = .ref (gx_b g + a) from if_pos ha2]
        exact va_iast hC.1 hC.2.1 hC.2.2.2.2.2.2.2.2.1.1 hI.1 (gx_wD g M) hI.2.2.2.2 a 0 hw rfl hin hd (fun H1 locs1 hP1 _ hS1 => k2 H1 locs1 hP1 hS1)
      · cases h
    · cases h
  · cases h)
theorem gs_bastore {g : gx_T} {own : String} {cc : ByteArray} {nL : Nat} {rt : Option FieldType} {nm : String} {pc : Nat} (hd : decode cc pc = .ok (.bastore, 1)) : gx_N g own cc nL rt nm pc (gc_sta 1 (vp_nar .byte)) := gx_mem1 (fun L st M x h => by
  unfold gc_sta at h
  split at h
  · rename_i v i a r
    split at h
    · rename_i t' n f hM
      split at h
      · rename_i hh
        obtain ⟨ha, ha2, ht, hin⟩ := hh
        subst ht
        cases h
        refine ⟨a, _, ha, rfl, rfl, fun hC hI _ _ k2 => ?_⟩
        have hw := gx_w_get g ha
        rw [hM] at hw
        rw [List.map_cons, List.map_cons, List.map_cons, show gx_v g (.ref a) = .ref (gx_b g + a) from if_pos ha2]
        exact va_bast hC.1 hC.2.1 hC.2.2.2.2.2.2.2.2.1.1 hI.1 (gx_wD g M) hI.2.2.2.2 a 1 hw rfl hin hd (fun H1 locs1 hP1 _ hS1 => k2 H1 locs1 hP1 hS1)
      · cases h
    · cases h
  · cases h)
theorem gs_zastore {g : gx_T} {own : String} {cc : ByteArray} {nL : Nat} {rt : Option FieldType} {nm : String} {pc : Nat} (hd : decode cc pc = .ok (.bastore, 1)) : gx_N g own cc nL rt nm pc (gc_sta 3 (vp_nar .boolean)) := gx_mem1 (fun L st M x h => by
  unfold gc_sta at h
  split at h
  · rename_i v i a r
    split at h
    · rename_i t' n f hM
      split at h
      · rename_i hh
        obtain ⟨ha, ha2, ht, hin⟩ := hh
        subst ht
        cases h
        refine ⟨a, _, ha, rfl, rfl, fun hC hI _ _ k2 => ?_⟩
        have hw := gx_w_get g ha
        rw [hM] at hw
        rw [List.map_cons, List.map_cons, List.map_cons, show gx_v g (.ref a) = .ref (gx_b g + a) from if_pos ha2]
        exact va_zast hC.1 hC.2.1 hC.2.2.2.2.2.2.2.2.1.1 hI.1 (gx_wD g M) hI.2.2.2.2 a 3 hw rfl hin hd (fun H1 locs1 hP1 _ hS1 => k2 H1 locs1 hP1 hS1)
      · cases h
    · cases h
  · cases h)
theorem gs_lastore {g : gx_T} {own : String} {cc : ByteArray} {nL : Nat} {rt : Option FieldType} {nm : String} {pc : Nat} (hd : decode cc pc = .ok (.lastore, 1)) : gx_N g own cc nL rt nm pc gc_lst := gx_mem1 (fun L st M x h => by
  unfold gc_lst at h
  split at h
  · rename_i v i a r
    split at h
    · rename_i t' n f hM
      split at h
      · rename_i hh
        obtain ⟨ha, ha2, ht, hin⟩ := hh
        subst ht
        cases h
        refine ⟨a, _, ha, rfl, rfl, fun hC hI _ _ k2 => ?_⟩
        have hw := gx_w_get g ha
        rw [hM] at hw
        rw [List.map_cons, List.map_cons, List.map_cons, show gx_v g (.ref a) = .ref (gx_b g + a) from if_pos ha2]
        exact va_last hC.1 hC.2.1 hC.2.2.2.2.2.2.2.2.1.1 hI.1 (gx_wD g M) hI.2.2.2.2 a 2 hw rfl hin hd (fun H1 locs1 hP1 _ hS1 => k2 H1 locs1 hP1 hS1)
      · cases h
    · cases h
  · cases h)
theorem gs_alen {g : gx_T} {own : String} {cc : ByteArray} {nL : Nat} {rt : Option FieldType} {nm : String} {pc : Nat} (hd : decode cc pc = .ok (.arraylength, 1)) : gx_N g own cc nL rt nm pc gc_alen := gx_easy (fun L st M x h => by
  unfold gc_alen at h
  split at h
  · rename_i a r
    split at h
    · rename_i t' n z hM
      split at h
      · rename_i hh
        obtain ⟨ha, ha2, ht⟩ := hh
        cases h
        refine ⟨rfl, rfl, fun hC hI _ _ _ _ k2 => ?_⟩
        have hw := gx_w_get g ha
        rw [hM] at hw
        rw [List.map_cons, show gx_v g (.ref a) = .ref (gx_b g + a) from if_pos ha2]
        have key : ∃ ty : FieldType, (gx_tys g)[t']? = some (gx_d g t', ty) := by
          match t', ht with
          | 0, _ => exact ⟨_, rfl⟩
          | 1, _ => exact ⟨_, rfl⟩
          | 2, _ => exact ⟨_, rfl⟩
          | 3, _ => exact ⟨_, rfl⟩
          | 4, _ => exact ⟨_, rfl⟩
          | 5, _ => exact ⟨_, rfl⟩
          | 6, _ => exact ⟨_, rfl⟩
          | 7, _ => exact ⟨_, rfl⟩
          | t + 8, h => exact absurd h (by omega)
        obtain ⟨ty, hty⟩ := key
        exact va_alen hC.1 hC.2.1 hC.2.2.2.2.2.2.2.2.1.1 hI.1 a t' hw hty rfl hd k2
      · cases h
    · cases h
  · cases h)
/-- a new cell -/
theorem gx_mk {g : gx_T} {own : String} {cc : ByteArray} {nL : Nat} {rt : Option FieldType} {nm : String} {pc : Nat} {f : gc_F}
    (h : ∀ (L : gc_L) (st : List Value) (M : gc_M) (x : gc_S), f pc L st M = some x → ∃ (n : Nat) (z : gc_C) (r : List Value), M.1 < 1000000 ∧ x.2.1 = L ∧ x.2.2.1 = .ref M.1 :: r ∧ x.2.2.2 = gc_push M n z ∧
      ∀ {p : Program} {l : Launch} {e : Env} {R : Room} {s : State} {m : MethodId} {args : Array Value} {below : List Frame} {meth : Method} {c : Code} {H : Heap} {locs : List Loc} {cells slots : Nat} {Q : State → Prop} {ls : Array Slot},
        gx_C g own cc nL rt nm p s m args meth c → gx_I g nL s L M H locs cells ls → cells + 1 ≤ R.cells → slots + n ≤ R.slots →
        (∀ (q : Nat) (H1 : Heap), va_P (gx_D g) vwCl (gx_w g M ++ [(q, gx_c g z)]) H1 → va_D (gx_A g) (gx_w g M ++ [(q, gx_c g z)]) → va_S (gx_A g) s.heap H1 locs → W p l e R s m args below meth c H1 locs (cells + 1) (slots + n) Q (F0 m x.1 ls (.ref q :: r.map (gx_v g)))) →
        W p l e R s m args below meth c H locs cells slots Q (F0 m pc ls (st.map (gx_v g)))) : gx_N g own cc nL rt nm pc f := by
  intro L st M pc' L' st' M1 hf
  obtain ⟨n, z, r, hlt, h1, h2, h3, h4⟩ := h L st M _ hf
  dsimp only at h1 h2 h3 h4
  subst h1
  subst h2
  subst h3
  refine ⟨Nat.le_succ _, Nat.le_add_right _ _, fun hC hI hfr hlo hce hsl k => ?_⟩
  have e1 : (gc_push M n z).1 - M.1 = 1 := Nat.add_sub_cancel_left _ _
  have e2 : (gc_push M n z).2.1 - M.2.1 = n := Nat.add_sub_cancel_left _ _
  rw [e1] at hce k
  rw [e2] at hsl k
  refine h4 hC hI hce hsl (fun q H1 hP1 hD1 hS1 => ?_)
  refine gx_sz (fun hz => ?_)
  have hl : (gx_w g M).length = M.1 := by simp [gx_w]
  have hget : (gx_w g M ++ [(q, gx_c g z)])[M.1]? = some (q, gx_c g z) := by
    rw [List.getElem?_append_right (by rw [hl]; exact Nat.le_refl _), hl, Nat.sub_self]
    rfl
  have hq1 : gx_b g ≤ q := hD1.2 M.1 _ hget
  have hq2 : q < H1.size := (hP1 M.1 _ hget).lt
  have hq3 : ∀ j, j < M.1 → q ≠ gx_b g + j := by
    intro j hj he
    have := hD1.1 M.1 j (q, gx_c g z) (gx_b g + j, gx_c g (M.2.2 j)) hget (by rw [List.getElem?_append_left (by rw [hl]; exact hj)]; exact gx_w_get g hj) he
    omega
  have hs1 := hI.2.1
  have hs2 := hI.2.2.1
  have hqq : q = gx_b g + M.1 := by
    by_cases hlt2 : q - gx_b g < M.1
    · exact absurd (show q = gx_b g + (q - gx_b g) by omega) (hq3 _ hlt2)
    · omega
  subst hqq
  rw [gx_w_push g n] at hP1
  have e3 : (gc_push M n z).1 = M.1 + 1 := rfl
  have hv : gx_v g (.ref M.1) = .ref (gx_b g + M.1) := if_pos hlt
  have k2 := k H1 _ _ ⟨hP1, by rw [e3]; omega, by omega, hI.2.2.2.1, hS1⟩
  rw [List.map_cons, hv] at k2
  exact k2
theorem gs_newa {g : gx_T} {own : String} {cc : ByteArray} {nL : Nat} {rt : Option FieldType} {nm : String} {pc : Nat} {atype : ArrayType} {t : Nat} {ty : FieldType} {z : (Nat → Int32) ⊕ (Nat → Int64) ⊕ (Nat → UInt32) ⊕ (Nat → UInt64) ⊕ (Nat → Option Nat)} (hd : decode cc pc = .ok (.newarray atype, 2)) (hty : newarray.typeOf atype = ty) (hw : Cond.arrayClass ty ∈ gx_WS) (hb : componentBytes ty ≤ 8)
    (hz : ∀ (cA : ClassId) (N : Nat), vp_cell cA (N, z) = arrV cA N (fun _ => defaultValue ty)) (hgz : gx_z g z = z) (htt : (gx_tys g)[t]? = some (gx_d g t, ty)) (hnm : ∀ U : State, va_RA U (gx_d g t) ty → U.vm.findClass ("[" ++ ty.toString) = some (gx_d g t)) : gx_N g own cc nL rt nm pc (gc_newa t z 2) := gx_mk (fun L st M x h => by
  unfold gc_newa at h
  split at h
  · rename_i y r
    split at h
    · rename_i hh
      obtain ⟨hn, hy, hM⟩ := hh
      cases h
      refine ⟨y.toNatClampNeg, .inr (t, y.toNatClampNeg, z), r, by omega, rfl, rfl, rfl, @fun p l e R s m args below meth c H locs cells slots Q ls hC hI hce hsl k2 => ?_⟩
      refine va_newa hC.1 hC.2.1 (atype := atype) (by rw [hty]; exact hC.2.2.2.2.1 _ hw) hty hC.2.2.2.2.2.2.2.2.1.1 hI.1 (gx_wD g M) hI.2.2.2.2 (fun q hq => Nat.le_trans hC.2.2.2.2.2.2.2.2.2 hq) (a0 := (y.toNatClampNeg, z)) (fun cA => hz cA _) hn rfl ?_ hce hsl hd (fun q cA H1 hK1 hP1 hD1 hS1 => ?_)
      · have : y.toNatClampNeg * componentBytes ty ≤ 1000 * 8 := Nat.mul_le_mul hy hb
        omega
      · have ec : cA = gx_d g t := by
          have h1 := (hK1.2 8 (cA, ty) (by rfl)).2
          have h2 := hnm s (hK1.2 t (gx_d g t, ty) (by rw [List.getElem?_append_left (by have := (List.getElem?_eq_some_iff.mp htt).1; exact this)]; exact htt)).2
          have h3 : s.vm.findClass ("[" ++ ty.toString) = some cA := by
            subst hty
            cases atype <;> exact h1
          exact Option.some.inj (h3.symm.trans h2)
        subst ec
        have ez : gx_c g (.inr (t, y.toNatClampNeg, z)) = .inl (gx_d g t, y.toNatClampNeg, z) := by
          show Sum.inl (gx_d g t, y.toNatClampNeg, gx_z g z) = _
          rw [hgz]
        rw [← ez] at hP1 hD1
        exact k2 q H1 hP1 hD1 hS1
    · cases h
  · cases h)
theorem gs_new {g : gx_T} {own : String} {cc : ByteArray} {nL : Nat} {rt : Option FieldType} {nm : String} {pc : Nat} {ci idx : Nat} {q : vw_C} {fs : List Value} {ty : Nat → FieldType} (hd : decode cc pc = .ok (.new idx, 3)) (hc : vwCl[ci]? = some q) (hin : ∀ w ∈ u_ws q.1 q.2.1 q.2.2, w ∈ gx_WS) (hty : ∀ k, k < q.2.2 → parseFieldDescriptor (q.2.1 k).2.2.1 = some (ty k)) (hw1 : Cond.classLink own idx q.1 ∈ gx_WS) (hw2 : Cond.instantiable q.1 q.2.2 ∈ gx_WS) (hw3 : Cond.initialized q.1 ∈ gx_WS) (hlen : fs.length = q.2.2) (hfs : ∀ j, j < q.2.2 → defaultValue (ty j) = vp_V fs j) (hnr : fs.map (gx_v g) = fs) : gx_N g own cc nL rt nm pc (gc_new ci fs) := gx_mk (fun L st M x h => by
  unfold gc_new at h
  split at h
  · rename_i hM
    cases h
    refine ⟨fs.length, .inl (ci, fs), st, by omega, rfl, rfl, rfl, fun hC hI hce hsl k2 => ?_⟩
    have ez : gx_c g (.inl (ci, fs)) = .inr (ci, fs) := by
      show Sum.inr (ci, fs.map (gx_v g)) = _
      rw [hnr]
    rw [ez, hlen] at k2
    rw [hlen] at hsl
    exact va_new hC.1 hC.2.1 hC.2.2.2.2.1 hin ty hty hC.2.2.2.1 (hC.2.2.2.2.1 _ hw1) (hC.2.2.2.2.1 _ hw2) (hC.2.2.2.2.1 _ hw3) hC.2.2.2.2.2.2.2.2.1.1 hI.1 (gx_wD g M) hI.2.2.2.2 (fun q hq => Nat.le_trans hC.2.2.2.2.2.2.2.2.2 hq) hc hfs hce hsl hd k2
  · cases h)
theorem gs_oi {g : gx_T} {own : String} {cc : ByteArray} {nL : Nat} {rt : Option FieldType} {nm : String} {pc : Nat} {idx : Nat} (hd : decode cc pc = .ok (.invokespecial idx, 3)) (hw1 : Cond.methodLink own idx objectInit ∈ gx_WS) (hw2 : Cond.instanceMethod objectInit ∈ gx_WS) (hw3 : Cond.code objectInit ⟨#[0xb1]⟩ 1 none ∈ gx_WS) : gx_N g own cc nL rt nm pc gc_oi := gx_easy (fun L st M x h => by
  unfold gc_oi at h
  split at h
  · rename_i a r
    split at h
    · rename_i hh
      obtain ⟨ha, ha2, hr⟩ := hh
      cases h
      refine ⟨rfl, rfl, fun hC hI hfr hlo _ _ k2 => ?_⟩
      rw [List.map_cons, show gx_v g (.ref a) = .ref (gx_b g + a) from if_pos ha2]
      refine W.objInit hC.1 hC.2.1 hC.2.2.2.1 (hC.2.2.2.2.1 _ hw1) (hC.2.2.2.2.1 _ hw2) (hC.2.2.2.2.1 _ hw3) rfl (hI.2.2.2.1.2.1.trans hC.2.2.1.symm) rfl hd hfr ?_ k2
      rw [gx_cats]
      show 2 * 0 + _ + 12 ≤ _
      omega
    · cases h
  · cases h)
