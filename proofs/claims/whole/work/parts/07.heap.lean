/-! rows: instructions that read and write cells -/
theorem gx_sub (ws : List Cond) (ps : List Nat) (h : ps.map (fun i => lw_tbl[i]?) = ws.map some) (hg : ws.all goodWord = true) : ∀ w ∈ ws, w ∈ gx_WS := by
  intro w hw
  have h1 : some w ∈ ps.map (fun i => lw_tbl[i]?) := by rw [h]; exact List.mem_map.mpr ⟨w, hw, rfl⟩
  obtain ⟨i, -, hi⟩ := List.mem_map.mp h1
  exact gx_mem i hi (List.all_eq_true.mp hg w hw)
/-- a field of a class: its place, declarer, name, descriptor, whether it is final -/
def gx_fd (ci k : Nat) (q : String × String × String × Bool) : Prop :=
  ∃ r : vw_C, vwCl[ci]? = some r ∧ k < r.2.2 ∧ r.2.1 k = q ∧ (∀ w ∈ u_ws r.1 r.2.1 r.2.2, w ∈ gx_WS) ∧ (∃ ty0 : Nat → FieldType, ∀ k, k < r.2.2 → parseFieldDescriptor (r.2.1 k).2.2.1 = some (ty0 k)) ∧
    (∀ a, a < r.2.2 → ∀ b, b < r.2.2 → a ≠ b → (r.2.1 a).2.1 ≠ (r.2.1 b).2.1)
def gx_fs (cs : List Nat) (k : Nat) (q : String × String × String × Bool) : Prop := ∀ ci ∈ cs, gx_fd ci k q
theorem gx_fs1 {ci k : Nat} {q : String × String × String × Bool} (h : gx_fd ci k q) : gx_fs [ci] k q := fun c hc => by
  rw [List.mem_singleton] at hc
  rw [hc]
  exact h
theorem gx_lo {g : gx_T} {M : gc_M} {H : Heap} (hP : va_P (gx_D g) vwCl (gx_w g M) H) (h0 : 0 < M.1) : gx_b g + M.1 ≤ H.size := by
  have h := (hP (M.1 - 1) _ (gx_w_get g (M := M) (k := M.1 - 1) (by omega))).lt
  dsimp only at h
  omega
theorem gx_same {args : Array Value} {s : State} {ref O n d : String} (hw : ∀ w ∈ gx_WS, w.before args s = true) (hs : ref = O ∨ Cond.sameField ref O n d ∈ gx_WS) : ∀ x, s.fieldFound? O n d = some x → s.fieldFound? ref n d = some x := by
  intro x hx
  rcases hs with rfl | hs
  · exact hx
  · exact u_same (hw _ hs) x hx
theorem gs_gf {g : gx_T} {own : String} {cc : ByteArray} {nL : Nat} {rt : Option FieldType} {nm : String} {pc idx : Nat} {ref O n d : String} {fin : Bool} {cs : List Nat} {k : Nat} (hd : decode cc pc = .ok (.getfield idx, 3)) (hl : Cond.fieldLink own idx ref n d ∈ gx_WS) (hs : ref = O ∨ Cond.sameField ref O n d ∈ gx_WS) (hc : gx_fs cs k (O, n, d, fin)) : gx_N g own cc nL rt nm pc (gc_gf cs k) := gx_easy (fun L st M x h => by
  unfold gc_gf at h
  split at h
  · rename_i a r
    split at h
    · rename_i ci fs hM
      split at h
      · rename_i hh
        obtain ⟨ha, ha2, hci⟩ := hh
        split at h
        · rename_i v hv
          cases h
          refine ⟨rfl, rfl, fun hC hI _ _ _ _ k2 => ?_⟩
          obtain ⟨q, e1, e2, e3, e4, -, -⟩ := hc ci hci
          have hw := gx_w_get g ha
          rw [hM] at hw
          rw [List.map_cons, show gx_v g (.ref a) = .ref (gx_b g + a) from if_pos ha2]
          refine va_get hC.1 hC.2.1 hC.2.2.2.2.1 e4 hC.2.2.2.1 hC.2.2.2.2.2.2.2.2.1.1 hI.1 a (fs := fs.map (gx_v g)) hw e1 k e2 (ref := ref) (index := idx) (by rw [e3]; exact hC.2.2.2.2.1 _ hl) (by rw [e3]; exact gx_same hC.2.2.2.2.1 hs) (v := gx_v g v) (by rw [List.getElem?_map, hv]; rfl) hd k2
        · cases h
      · cases h
    · cases h
  · cases h)
theorem gx_okv {g : gx_T} {ty : FieldType} {v : Value} (h : gc_ok ty v = true) : narrow ty (gx_v g v) = gx_v g v ∧ fits ty (gx_v g v) = true := by
  unfold gc_ok at h
  split at h
  · exact ⟨rfl, rfl⟩
  · exact ⟨rfl, rfl⟩
  · rename_i x
    rw [Bool.or_eq_true, beq_iff_eq, beq_iff_eq] at h
    rcases h with h | h <;> (subst h; exact ⟨rfl, rfl⟩)
  · exact ⟨rfl, rfl⟩
  · rename_i k
    rw [show gx_v g (.ref k) = .ref (gx_b g + k) from if_pos (of_decide_eq_true h)]
    exact ⟨rfl, rfl⟩
  · exact ⟨rfl, rfl⟩
  · rename_i k
    rw [show gx_v g (.ref k) = .ref (gx_b g + k) from if_pos (of_decide_eq_true h)]
    exact ⟨rfl, rfl⟩
  · cases h
/-- an instruction that changes one cell -/
theorem gx_mem1 {g : gx_T} {own : String} {cc : ByteArray} {nL : Nat} {rt : Option FieldType} {nm : String} {pc : Nat} {f : gc_F}
    (h : ∀ (L : gc_L) (st : List Value) (M : gc_M) (x : gc_S), f pc L st M = some x → ∃ (a : Nat) (z : gc_C), a < M.1 ∧ x.2.1 = L ∧ x.2.2.2 = gc_up M a z ∧
      ∀ {p : Program} {l : Launch} {e : Env} {R : Room} {s : State} {m : MethodId} {args : Array Value} {below : List Frame} {meth : Method} {c : Code} {H : Heap} {locs : List Loc} {cells slots : Nat} {Q : State → Prop} {ls : Array Slot},
        gx_C g own cc nL rt nm p s m args meth c → gx_I g nL s L M H locs cells ls → 1 ≤ R.frames → 64 ≤ R.locals →
        (∀ (H1 : Heap) (locs1 : List Loc), va_P (gx_D g) vwCl ((gx_w g M).set a (gx_b g + a, gx_c g z)) H1 → va_S (gx_A g) s.heap H1 locs1 → W p l e R s m args below meth c H1 locs1 cells slots Q (F0 m x.1 ls (x.2.2.1.map (gx_v g)))) →
        W p l e R s m args below meth c H locs cells slots Q (F0 m pc ls (st.map (gx_v g)))) : gx_N g own cc nL rt nm pc f := by
  intro L st M pc' L' st' M1 hf
  obtain ⟨a, z, ha, h1, h2, h3⟩ := h L st M _ hf
  dsimp only at h1 h2 h3
  subst h1
  subst h2
  refine ⟨Nat.le_refl _, Nat.le_refl _, fun hC hI hfr hlo hce hsl k => h3 hC hI hfr hlo (fun H1 locs1 hP1 hS1 => ?_)⟩
  have e1 : (gc_up M a z).1 - M.1 = 0 := Nat.sub_self _
  have e2 : (gc_up M a z).2.1 - M.2.1 = 0 := Nat.sub_self _
  rw [e1, e2, Nat.add_zero, Nat.add_zero] at k
  refine gx_sz (fun hz => ?_)
  rw [gx_w_set] at hP1
  have hl := gx_lo hP1 (Nat.lt_of_le_of_lt (Nat.zero_le a) ha)
  have e3 : (gc_up M a z).1 = M.1 := rfl
  exact k _ _ _ ⟨hP1, by rw [e3] at hl ⊢; have := hI.2.1; have := hI.2.2.1; omega, by rw [e3] at hl; have := hI.2.1; have := hI.2.2.1; omega, hI.2.2.2.1, hS1⟩
theorem gs_pf {g : gx_T} {own : String} {cc : ByteArray} {nL : Nat} {rt : Option FieldType} {nm : String} {pc idx : Nat} {ref O n d : String} {cs : List Nat} {k : Nat} {ty : FieldType} (hd : decode cc pc = .ok (.putfield idx, 3)) (hl : Cond.fieldLink own idx ref n d ∈ gx_WS) (hs : ref = O ∨ Cond.sameField ref O n d ∈ gx_WS) (hc : gx_fs cs k (O, n, d, false)) (hty : parseFieldDescriptor d = some ty) : gx_N g own cc nL rt nm pc (gc_pf cs k ty) := gx_mem1 (fun L st M x h => by
  unfold gc_pf at h
  split at h
  · rename_i v a r
    split at h
    · rename_i ci fs hM
      split at h
      · rename_i hh
        obtain ⟨ha, ha2, hci, hk, hv⟩ := hh
        cases h
        refine ⟨a, .inl (ci, fs.set k v), ha, rfl, rfl, fun hC hI _ _ k2 => ?_⟩
        obtain ⟨q, e1, e2, e3, e4, ⟨ty0, e5⟩, e6⟩ := hc ci hci
        have hw := gx_w_get g ha
        rw [hM] at hw
        rw [List.map_cons, List.map_cons, show gx_v g (.ref a) = .ref (gx_b g + a) from if_pos ha2]
        have hvv := gx_okv (g := g) hv
        refine va_put hC.1 hC.2.1 hC.2.2.2.2.1 e4 ty0 e5 e6 hC.2.2.2.1 hC.2.2.2.2.2.2.2.2.1.1 hI.1 (gx_wD g M) hI.2.2.2.2 a (fs := fs.map (gx_v g)) hw e1 k e2 (ref := ref) (index := idx) (by rw [e3]; exact hC.2.2.2.2.1 _ hl) (by rw [e3]; exact gx_same hC.2.2.2.2.1 hs) (by rw [e3]) (by rw [e3]; exact hty) hvv.1 hvv.2 (by simpa using hk) hd (fun H1 locs1 hP1 _ hS1 => k2 H1 locs1 ?_ hS1)
        rw [← List.map_set] at hP1
        exact hP1
      · cases h
    · cases h
  · cases h)
theorem gs_pff {g : gx_T} {own : String} {cc : ByteArray} {nL : Nat} {rt : Option FieldType} {pc idx : Nat} {n d : String} {cs : List Nat} {k : Nat} {ty : FieldType} (hd : decode cc pc = .ok (.putfield idx, 3)) (hl : Cond.fieldLink own idx own n d ∈ gx_WS) (hc : gx_fs cs k (own, n, d, true)) (hty : parseFieldDescriptor d = some ty) : gx_N g own cc nL rt "<init>" pc (gc_pf cs k ty) := gx_mem1 (fun L st M x h => by
  unfold gc_pf at h
  split at h
  · rename_i v a r
    split at h
    · rename_i ci fs hM
      split at h
      · rename_i hh
        obtain ⟨ha, ha2, hci, hk, hv⟩ := hh
        cases h
        refine ⟨a, .inl (ci, fs.set k v), ha, rfl, rfl, fun hC hI _ _ k2 => ?_⟩
        obtain ⟨q, e1, e2, e3, e4, ⟨ty0, e5⟩, e6⟩ := hc ci hci
        have hw := gx_w_get g ha
        rw [hM] at hw
        rw [List.map_cons, List.map_cons, show gx_v g (.ref a) = .ref (gx_b g + a) from if_pos ha2]
        have hvv := gx_okv (g := g) hv
        refine va_putF hC.1 hC.2.1 hC.2.2.2.2.1 e4 ty0 e5 e6 hC.2.2.2.1 hC.2.2.2.2.2.2.2.2.1.1 hI.1 (gx_wD g M) hI.2.2.2.2 a (fs := fs.map (gx_v g)) hw e1 k e2 (ref := own) (index := idx) (by rw [e3]; exact hC.2.2.2.2.1 _ hl) (by rw [e3]; exact fun x hx => hx) (by rw [e3]) hC.2.2.2.2.2.2.2.1 (by rw [e3]) (by rw [e3]; exact hty) hvv.1 hvv.2 (by simpa using hk) hd (fun H1 locs1 hP1 _ hS1 => k2 H1 locs1 ?_ hS1)
        rw [← List.map_set] at hP1
        exact hP1
      · cases h
    · cases h
  · cases h)
