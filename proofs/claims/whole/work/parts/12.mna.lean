/-! rows: arrays of references; new T[n][m] -/
theorem gs_anew {g : gx_T} {own : String} {cc : ByteArray} {nL : Nat} {rt : Option FieldType} {nm : String} {pc idx t : Nat} {C : String} (hd : decode cc pc = .ok (.anewarray idx, 3)) (hw : Cond.classLink own idx C ∈ gx_WS) (hO : ∀ s : State, gx_O s → va_AO C s) (htt : (gx_tys g)[t]? = some (gx_d g t, .object C)) : gx_N g own cc nL rt nm pc (gc_newa t (.inr (.inr (.inr (.inr (fun _ => none))))) 3) := gx_mk (fun L st M x h => by
  unfold gc_newa at h
  split at h
  · rename_i y r
    split at h
    · rename_i hh
      obtain ⟨hn, hy, hM⟩ := hh
      cases h
      refine ⟨y.toNatClampNeg, .inr (t, y.toNatClampNeg, .inr (.inr (.inr (.inr (fun _ => none))))), r, by omega, rfl, rfl, rfl, @fun p l e R s m args below meth c H locs cells slots Q ls hC hI hce hsl k2 => ?_⟩
      refine va_newq hC.1 hC.2.1 (C := C) hC.2.2.2.1 (hC.2.2.2.2.1 _ hw) (hO s hC.2.2.2.2.2.2.2.2.1.2.2.1.2) hC.2.2.2.2.2.2.2.2.1.1 hI.1 (gx_wD g M) hI.2.2.2.2 (fun q hq => Nat.le_trans hC.2.2.2.2.2.2.2.2.2 hq) hn rfl (by omega) hce hsl hd (fun q cA H1 hK1 hP1 hD1 hS1 => ?_)
      have ec : cA = gx_d g t := by
        obtain ⟨k1, c1, -, -, -, f1⟩ := (hK1.2 8 (cA, .object C) (by rfl)).2
        obtain ⟨k2, c2, -, -, -, f2⟩ := (hK1.2 t (gx_d g t, .object C) (by rw [List.getElem?_append_left (by have := (List.getElem?_eq_some_iff.mp htt).1; exact this)]; exact htt)).2
        exact Option.some.inj (f1.symm.trans f2)
      subst ec
      exact k2 q H1 hP1 hD1 hS1
    · cases h
  · cases h)
theorem gx_outer (c : ClassId) (N h0 : Nat) : ∀ i : Nat, Jvm.Free.Multi.outerC c N h0 i = arrV c N (fun j => va_rf (if j < i then some (h0 + 1 + j) else none))
  | 0 => by
    show ({ cls := c, slots := Array.replicate N .null, vm := .none } : Cell) = _
    rw [arrV_new]
    refine congrArg (arrV c N) (funext fun j => ?_)
    simp [va_rf]
  | i + 1 => by
    show (Jvm.Free.Multi.outerC c N h0 i).setSlot i (.ref (h0 + 1 + i)) = _
    rw [gx_outer c N h0 i, arrV_store]
    refine congrArg (arrV c N) (funext fun j => ?_)
    by_cases e : j = i
    · subst e
      simp [updV, va_rf]
    · by_cases h : j < i
      · simp [updV, e, h, Nat.lt_succ_of_lt h]
      · simp [updV, e, h, show ¬ j < i + 1 by omega]
theorem gs_mna {g : gx_T} {own : String} {cc : ByteArray} {nL : Nat} {rt : Option FieldType} {nm : String} {pc idx : Nat} (hd : decode cc pc = .ok (.multianewarray idx 2, 4)) (hw1 : Cond.classLink own idx ("[" ++ (FieldType.array .int).toString) ∈ gx_WS) (hw2 : Cond.arrayClass .int ∈ gx_WS) : gx_N g own cc nL rt nm pc gc_mna := by
  intro L st M pc' L' st' M1 h
  unfold gc_mna at h
  split at h
  · rename_i k n r
    split at h
    · rename_i hh
      obtain ⟨hk, hn, hk2, hn2, hM⟩ := hh
      cases h
      refine ⟨Nat.le_add_right _ _, Nat.le_add_right _ _, @fun p l e R s m args below meth c H locs cells slots Q ls hC hI hfr hlo hce hsl kk => ?_⟩
      dsimp only at hce hsl kk
      rw [Nat.add_sub_cancel_left] at hce hsl kk
      rw [Nat.add_sub_cancel_left] at kk
      intro T hT X
      have hts := hC.2.2.2.2.1
      have hO := hC.2.2.2.2.2.2.2.2.1.2.2.1.2.2.2.2.1
      have hK := hC.2.2.2.2.2.2.2.2.1.1
      obtain ⟨vm₁, cA, comp, hW, fA, fC, hOu, hIn, X', step⟩ := X.multianewarray2F hC.1 (ty := .int) hC.2.2.2.1 (hts _ hw1) (over_moved (Vm.Alike.refl s.vm) hO) (hts _ hw2) (g := F0 m pc ls ((Value.int k :: Value.int n :: r).map (gx_v g))) rfl (by rw [hC.2.1]; exact hd) rfl hn hk (by omega) (by show _ * 4 ≤ _; omega) (by omega) rfl rfl hce hsl
      have ecA : cA = gx_d g 4 := by
        have f := (hK.2 4 (gx_d g 4, .array .int) rfl).2
        exact Option.some.inj (fA.symm.trans f)
      have eco : comp = gx_d g 0 := by
        have f := (hK.2 0 (gx_d g 0, .int) rfl).2
        exact Option.some.inj (fC.symm.trans f)
      subst ecA
      subst eco
      generalize hF : Jvm.Free.Multi.fill (T.setVm vm₁) (gx_d g 4) (gx_d g 0) n.toNatClampNeg k.toNatClampNeg (defaultValue .int) n.toNatClampNeg = F at X' step
      have hTh : (T.setVm vm₁).heap = H := hT
      obtain ⟨f1, f2, -, -⟩ := Jvm.Free.Multi.fill_facts (T.setVm vm₁) (gx_d g 4) (gx_d g 0) n.toNatClampNeg k.toNatClampNeg (defaultValue .int) n.toNatClampNeg
      rw [hF, hTh] at f1 f2
      have hold : ∀ x : Nat, x < H.size → F.heap[x]? = H[x]? := fun x hx => by
        have := Jvm.Free.Multi.fill_old (T.setVm vm₁) (gx_d g 4) (gx_d g 0) n.toNatClampNeg k.toNatClampNeg (defaultValue .int) (a := x) (by rw [hTh]; exact hx) n.toNatClampNeg
        rw [hF, hTh] at this
        exact this
      have hrow : ∀ j : Nat, j < n.toNatClampNeg → F.heap[H.size + 1 + j]? = some (vp_cell (gx_d g 0) (k.toNatClampNeg, .inl (fun _ => 0))) := fun j hj => by
        have := Jvm.Free.Multi.fill_inner (T.setVm vm₁) (gx_d g 4) (gx_d g 0) n.toNatClampNeg k.toNatClampNeg (defaultValue .int) n.toNatClampNeg j hj
        rw [hF, hTh] at this
        rw [this, vp_cell_i, ← arrV_new]
        rfl
      have hs1 := hI.2.1
      have hs2 := hI.2.2.1
      have hP1 : va_P (gx_D g) vwCl (gx_w g (M.1 + (1 + n.toNatClampNeg), M.2.1 + (n.toNatClampNeg + n.toNatClampNeg * k.toNatClampNeg), fun j => if j = M.1 then .inr (4, n.toNatClampNeg, .inr (.inr (.inr (.inr (fun i => if i < n.toNatClampNeg then some (M.1 + 1 + i) else none))))) else if M.1 < j ∧ j < M.1 + (1 + n.toNatClampNeg) then .inr (0, k.toNatClampNeg, .inl (fun _ => 0)) else M.2.2 j)) F.heap := by
        intro j q hq
        have hj : j < M.1 + (1 + n.toNatClampNeg) := by
          have := (List.getElem?_eq_some_iff.mp hq).1
          simpa [gx_w] using this
        rw [gx_w_get g (by exact hj)] at hq
        cases hq
        by_cases e1 : j = M.1
        · subst e1
          dsimp only
          rw [if_pos rfl]
          show F.heap[gx_b g + M.1]? = some (vp_cell (gx_d g 4) (n.toNatClampNeg, .inr (.inr (.inr (.inr (fun i => (if i < n.toNatClampNeg then some (M.1 + 1 + i) else none).map (fun k => gx_b g + k)))))))
          rw [← hs1, f2, gx_outer, vp_cell_q]
          congr 2
          funext i
          by_cases hi : i < n.toNatClampNeg
          · simp only [hi, if_true, Option.map_some]
            rw [hs1, show gx_b g + M.1 + 1 + i = gx_b g + (M.1 + 1 + i) by omega]
          · simp only [hi, if_false, Option.map_none]
        · by_cases e2 : M.1 < j ∧ j < M.1 + (1 + n.toNatClampNeg)
          · dsimp only
            rw [if_neg e1, if_pos e2]
            show F.heap[gx_b g + j]? = some (vp_cell _ _)
            have := hrow (j - M.1 - 1) (by omega)
            rw [show H.size + 1 + (j - M.1 - 1) = gx_b g + j by omega] at this
            exact this
          · dsimp only
            rw [if_neg e1, if_neg e2]
            have hj2 : j < M.1 := by omega
            exact (hI.1 j _ (gx_w_get g hj2)).kept (hold _ (by show gx_b g + j < H.size; omega))
      have hS1 : va_S (gx_A g) s.heap F.heap locs := ⟨by rw [f1]; have := hI.2.2.2.2.1; omega, fun x h1 h2 => by
        rw [hold x (Nat.lt_of_lt_of_le h1 hI.2.2.2.2.1)]
        exact hI.2.2.2.2.2.1 x h1 h2, hI.2.2.2.2.2.2⟩
      obtain ⟨t, a1, b1⟩ := kk F.heap locs ls ⟨hP1, by rw [f1]; show _ = gx_b g + (M.1 + (1 + n.toNatClampNeg)); omega, by rw [f1]; omega, hI.2.2.2.1, hS1⟩ F rfl (by
        have e1 : cells + 1 + n.toNatClampNeg = cells + (1 + n.toNatClampNeg) := by omega
        have e2 : slots + n.toNatClampNeg + n.toNatClampNeg * k.toNatClampNeg = slots + (n.toNatClampNeg + n.toNatClampNeg * k.toNatClampNeg) := by omega
        rw [← e1, ← e2]
        exact X')
      refine ⟨t, step t ?_, b1⟩
      have e : T.heap.size = gx_b g + M.1 := by rw [hT]; exact hs1
      rw [e]
      rw [List.map_cons, show gx_v g (.ref M.1) = .ref (gx_b g + M.1) from if_pos (show M.1 < 1000000 by omega)] at a1
      exact a1
    · cases h
  · cases h
theorem gs_ast {g : gx_T} {own : String} {cc : ByteArray} {nL : Nat} {rt : Option FieldType} {nm : String} {pc t : Nat} {E : String} {cs : List Nat} (hd : decode cc pc = .ok (.aastore, 1)) (htt : (gx_tys g)[t]? = some (gx_d g t, .object E)) (hcs : ∀ ci ∈ cs, ∃ r : vw_C, vwCl[ci]? = some r ∧ (r.1 = E ∨ (E = RX0 ∧ r.1 ∈ gx_cas))) : gx_N g own cc nL rt nm pc (gc_ast t cs) := gx_mem1 (fun L st M x h => by
  unfold gc_ast at h
  split at h
  · rename_i v i a r
    split at h
    · rename_i t' n f ci fs hMa hMv
      split at h
      · rename_i hh
        obtain ⟨ha, ha2, hv, hv2, hci, ht, hin⟩ := hh
        subst ht
        cases h
        refine ⟨a, _, ha, rfl, rfl, fun hC hI hfr hlo k2 => ?_⟩
        have hwa := gx_w_get g ha
        rw [hMa] at hwa
        have hwv := gx_w_get g hv
        rw [hMv] at hwv
        simp only [List.map_cons]
        rw [show gx_v g (.ref a) = .ref (gx_b g + a) from if_pos ha2, show gx_v g (.ref v) = .ref (gx_b g + v) from if_pos hv2]
        have hz : ∀ (H1 : Heap) (locs1 : List Loc), va_P (gx_D g) vwCl ((gx_w g M).set a (gx_b g + a, .inl (gx_d g t', n, .inr (.inr (.inr (.inr (va_up (fun i => (f i).map (fun k => gx_b g + k)) i.toNatClampNeg (some (gx_b g + v))))))))) H1 → va_P (gx_D g) vwCl ((gx_w g M).set a (gx_b g + a, gx_c g (.inr (t', n, .inr (.inr (.inr (.inr (va_up f i.toNatClampNeg (some v))))))))) H1 := by
          intro H1 _ h
          have e : (fun j => (va_up f i.toNatClampNeg (some v) j).map (fun k => gx_b g + k)) = va_up (fun i => (f i).map (fun k => gx_b g + k)) i.toNatClampNeg (some (gx_b g + v)) := by
            funext j
            unfold va_up
            split <;> rfl
          show va_P (gx_D g) vwCl ((gx_w g M).set a (gx_b g + a, .inl (gx_d g t', n, .inr (.inr (.inr (.inr (fun j => (va_up f i.toNatClampNeg (some v) j).map (fun k => gx_b g + k)))))))) H1
          rw [e]
          exact h
        obtain ⟨q, hq, hE | ⟨hE, hca⟩⟩ := hcs ci hci
        · subst hE
          exact va_astq hC.1 hC.2.1 hC.2.2.2.2.2.2.2.2.1.1 hI.1 (gx_wD g M) hI.2.2.2.2 a t' v ci hwa htt hwv hq hin hd (fun H1 locs1 hP1 _ hS1 => k2 H1 locs1 (hz H1 locs1 hP1) hS1)
        · subst hE
          exact va_astqO hC.1 hC.2.1 hC.2.2.2.2.2.2.2.2.1.1 hI.1 (gx_wD g M) hI.2.2.2.2 a t' v ci hwa htt (hC.2.2.2.2.2.2.2.2.1.2.2.1.2.2.2.2.2 _ hca) hwv hq hin hd (fun H1 locs1 hP1 _ hS1 => k2 H1 locs1 (hz H1 locs1 hP1) hS1)
      · cases h
    · cases h
  · cases h)
