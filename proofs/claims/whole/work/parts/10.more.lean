/-! rows: constructors, super's methods, texts, statics, the library's members -/
theorem gx_ccode {y : gx_Y} (hc : Cond.code y.1 y.2.1 y.2.2.1 y.2.2.2 ∈ gx_WS) : GoodIn gx_WS (Cond.code y.1 y.2.1 y.2.2.1 y.2.2.2 :: gx_WS) := gx_WS_good _ (fun w hw => by
  rcases List.mem_cons.mp hw with rfl | h
  · exact hc
  · exact h)
/-- a direct call on a new or the own object: its receiver is any reference to one of our cells -/
def gc_ci (m2 n : Nat) : gc_G := fun st M => match st[n]? with
  | some (.ref a) => match M.2.2 a with
    | .inl (ci, _) => if a < M.1 ∧ a < 1000000 ∧ ci < 13 ∧ ((st.drop (n + 1)).map Value.category).sum ≤ 8 then some (m2, (st.take (n + 1)).reverse, st.drop (n + 1)) else none
    | _ => none
  | _ => none
theorem gx_stack {g : gx_T} {st : List Value} {n a : Nat} (hst : st[n]? = some (.ref a)) (ha2 : a < 1000000) :
    st.map (gx_v g) = (((st.take n).reverse).map (gx_v g)).reverse ++ .ref (gx_b g + a) :: (st.drop (n + 1)).map (gx_v g) ∧ ((st.take (n + 1)).reverse).map (gx_v g) = .ref (gx_b g + a) :: ((st.take n).reverse).map (gx_v g) ∧ (((st.take n).reverse).map (gx_v g)).length = n := by
  have hlt : n < st.length := (List.getElem?_eq_some_iff.mp hst).1
  have hge : st[n] = .ref a := (List.getElem?_eq_some_iff.mp hst).2
  have e0 : (st.take (n + 1)).reverse = .ref a :: (st.take n).reverse := by
    rw [List.take_succ_eq_append_getElem hlt, List.reverse_append, hge]
    rfl
  refine ⟨?_, ?_, by simp; omega⟩
  · rw [← List.map_reverse, List.reverse_reverse, show Value.ref (gx_b g + a) = gx_v g (.ref a) from (if_pos ha2).symm, ← List.map_cons, ← List.map_append, ← hge, ← List.drop_eq_getElem_cons hlt, List.take_append_drop]
  · rw [e0, List.map_cons, show gx_v g (.ref a) = .ref (gx_b g + a) from if_pos ha2]
theorem gs_ci {g : gx_T} {md : Nat → gx_Y} {own : String} {cc : ByteArray} {nL : Nat} {rt : Option FieldType} {nm : String} {pc idx m2 n : Nat} {y : MethodName} {by2 : ByteArray} {mL : Nat} (hd : decode cc pc = .ok (.invokespecial idx, 3)) (hy : md m2 = (y, by2, mL, none)) (hw : ∀ w ∈ [Cond.methodLink own idx y, Cond.instanceMethod y, Cond.initialized y.cls, Cond.code y by2 mL none], w ∈ gx_WS) (hn : y.cls ≠ "java/lang/invoke/MethodHandle" ∧ y.cls ≠ "java/lang/invoke/VarHandle" ∧ (parseMethodDescriptor y.desc).map (fun d => d.parameters.length) = some n) (hm : mL ≤ 40) (hnm : y.name = "<init>") : gx_CN g md own cc nL rt nm pc (gc_ci m2 n) := by
  intro st M m2' as rest h
  unfold gc_ci at h
  split at h
  · rename_i a hst
    split at h
    · rename_i ci fs hM
      split at h
      · rename_i hh
        obtain ⟨ha, ha2, hci, hr⟩ := hh
        cases h
        rw [hy]
        refine ⟨hm, fun hC hI hMt hf hlo hce hsl => ?_⟩
        have hts := hC.2.2.2.2.1
        obtain ⟨e1, e2, hlen⟩ := gx_stack (g := g) hst ha2
        have hpre := gx_pre (as := (st.take (n + 1)).reverse) hC hI
        rw [e2] at hpre ⊢
        exact va_runI (As := ((st.take n).reverse).map (gx_v g)) ⟨hC.1, hC.2.1, hC.2.2.1, hC.2.2.2.1, hts⟩ hMt ⟨gx_callB (y := (y, by2, mL, none)) hts (hw _ (by simp)) hm (hw _ (by simp)) (hw _ (by simp)) hn hf hlo, hnm, hts _ (hw _ (by simp))⟩
          ⟨gx_P_blind g _ M, hpre⟩ rfl hlen hI.2.2.2.1.2.1 e1 (gx_room hr) hd ⟨hce, hsl⟩
      · cases h
    · cases h
  · cases h
theorem gs_cin {g : gx_T} {md : Nat → gx_Y} {own : String} {cc : ByteArray} {nL : Nat} {rt : Option FieldType} {nm : String} {pc idx m2 n : Nat} {y : MethodName} {by2 : ByteArray} {mL : Nat} {host : String} (hd : decode cc pc = .ok (.invokespecial idx, 3)) (hy : md m2 = (y, by2, mL, none)) (hnw : Cond.methodLinkNest own idx y host ∈ gx_nw) (hw : ∀ w ∈ [Cond.instanceMethod y, Cond.initialized y.cls, Cond.code y by2 mL none], w ∈ gx_WS) (hn : y.cls ≠ "java/lang/invoke/MethodHandle" ∧ y.cls ≠ "java/lang/invoke/VarHandle" ∧ (parseMethodDescriptor y.desc).map (fun d => d.parameters.length) = some n) (hm : mL ≤ 40) (hnm : y.name = "<init>") : gx_CN g md own cc nL rt nm pc (gc_ci m2 n) := by
  intro st M m2' as rest h
  unfold gc_ci at h
  split at h
  · rename_i a hst
    split at h
    · rename_i ci fs hM
      split at h
      · rename_i hh
        obtain ⟨ha, ha2, hci, hr⟩ := hh
        cases h
        rw [hy]
        refine ⟨hm, fun hC hI hMt hf hlo hce hsl => ?_⟩
        have hts := hC.2.2.2.2.1
        obtain ⟨e1, e2, hlen⟩ := gx_stack (g := g) hst ha2
        have hpre := gx_pre (as := (st.take (n + 1)).reverse) hC hI
        rw [e2] at hpre ⊢
        refine va_runIN (host := host) (As := ((st.take n).reverse).map (gx_v g)) ⟨hC.1, hC.2.1, hC.2.2.1, hC.2.2.2.1, hts⟩ hMt ⟨va_cnB n hts (gx_ccode (y := (y, by2, mL, none)) (hw _ (by simp))) rfl rfl rfl (hC.2.2.2.2.2.2.2.2.1.2.1 _ hnw) (hts _ (hw _ (by simp))) hn ⟨?_, ?_⟩, hnm, hts _ (hw _ (by simp))⟩
          ⟨gx_P_blind g _ M, hpre⟩ rfl hlen hI.2.2.2.1.2.1 e1 (gx_room hr) hd ⟨hce, hsl⟩
        · show _ + 1 + 1 ≤ _
          omega
        · show 8 + (mL + 11) + 64 * (_ + 1) ≤ _
          omega
      · cases h
    · cases h
  · cases h
theorem gx_vwat {g : gx_T} {own : String} {cc : ByteArray} {nL : Nat} {rt : Option FieldType} {nm : String} {p : Program} {s : State} {m : MethodId} {args : Array Value} {meth : Method} {c : Code} {ci : Nat} (hC : gx_C g own cc nL rt nm p s m args meth c) (hci : ci < 13) : ∃ q : vw_C, vwCl[ci]? = some q ∧ ClassAt s q.1 ((gx_D g).1 ci) := by
  have hl : ci < vwCl.length := hci
  exact ⟨vwCl[ci], List.getElem?_eq_getElem hl, (hC.2.2.2.2.2.2.2.2.1.1.1 ci _ (List.getElem?_eq_getElem hl)).2⟩
theorem gs_csu {g : gx_T} {md : Nat → gx_Y} {own : String} {cc : ByteArray} {nL : Nat} {rt : Option FieldType} {nm : String} {pc idx m2 n : Nat} {y : gx_Y} (hd : decode cc pc = .ok (.invokespecial idx, 3)) (hy : md m2 = y) (hw : ∀ w ∈ [Cond.methodLink own idx y.1, Cond.sameMethod y.1.cls y.1.cls y.1.name y.1.desc, Cond.superclass own y.1.cls, Cond.instanceMethod y.1, Cond.initialized y.1.cls, Cond.code y.1 y.2.1 y.2.2.1 y.2.2.2], w ∈ gx_WS) (hn : y.1.name ≠ "<init>" ∧ (parseMethodDescriptor y.1.desc).map (fun d => d.parameters.length) = some n) (hm : y.2.2.1 ≤ 40) : gx_CN g md own cc nL rt nm pc (gc_ci m2 n) := by
  intro st M m2' as rest h
  unfold gc_ci at h
  split at h
  · rename_i a hst
    split at h
    · rename_i ci fs hM
      split at h
      · rename_i hh
        obtain ⟨ha, ha2, hci, hr⟩ := hh
        cases h
        rw [hy]
        refine ⟨hm, fun hC hI hMt hf hlo hce hsl => ?_⟩
        have hts := hC.2.2.2.2.1
        obtain ⟨e1, e2, hlen⟩ := gx_stack (g := g) hst ha2
        have hpre := gx_pre (as := (st.take (n + 1)).reverse) hC hI
        rw [e2] at hpre ⊢
        obtain ⟨q, hq, hat⟩ := gx_vwat hC hci
        have hG : GoodIn gx_WS (va_wsSU own idx y.1 (Cond.code y.1 y.2.1 y.2.2.1 y.2.2.2 :: gx_WS)) := fun w hw2 => by
          unfold va_wsSU at hw2
          rcases List.mem_append.mp hw2 with h2 | h2
          · exact gx_WS_good _ (fun w' h' => hw w' (by
              simp only [List.mem_cons, List.not_mem_nil, or_false] at h' ⊢
              rcases h' with h' | h' | h' | h' | h' <;> simp [h'])) w h2
          · exact gx_ccode (y := y) (hw (Cond.code y.1 y.2.1 y.2.2.1 y.2.2.2) (by simp)) w h2
        refine va_runSU (C := q.1) (As := ((st.take n).reverse).map (gx_v g)) hat ⟨hC.1, hC.2.1, hC.2.2.1, hC.2.2.2.1, hts⟩ hMt (va_cwSU n hts hG rfl rfl rfl hn ⟨?_, ?_⟩)
          ⟨gx_P_blind g _ M, gx_recv hC hI ha hM hq, hpre⟩ rfl hlen hI.2.2.2.1.2.1 e1 (gx_room hr) hd ⟨hce, hsl⟩
        · show _ + 1 + 1 ≤ _
          omega
        · show 8 + (y.2.2.1 + 11) + 64 * (_ + 1) ≤ _
          omega
      · cases h
    · cases h
  · cases h

/-- super's method where the superclass only inherits it -/
theorem gs_csx {g : gx_T} {md : Nat → gx_Y} {own : String} {cc : ByteArray} {nL : Nat} {rt : Option FieldType} {nm : String} {pc idx m2 n : Nat} {y : gx_Y} {x : MethodName} {owner : String} (hd : decode cc pc = .ok (.invokespecial idx, 3)) (hy : md m2 = y) (hyx : y.1 = ⟨owner, x.name, x.desc⟩) (hw : ∀ w ∈ [Cond.methodLink own idx x, Cond.sameMethod x.cls owner x.name x.desc, Cond.superclass own x.cls, Cond.superclass x.cls owner, Cond.instanceMethod y.1, Cond.initialized y.1.cls, Cond.code y.1 y.2.1 y.2.2.1 y.2.2.2], w ∈ gx_WS) (hn : x.name ≠ "<init>" ∧ (parseMethodDescriptor x.desc).map (fun d => d.parameters.length) = some n) (hm : y.2.2.1 ≤ 40) : gx_CN g md own cc nL rt nm pc (gc_ci m2 n) := by
  intro st M m2' as rest h
  unfold gc_ci at h
  split at h
  · rename_i a hst
    split at h
    · rename_i ci fs hM
      split at h
      · rename_i hh
        obtain ⟨ha, ha2, hci, hr⟩ := hh
        cases h
        rw [hy]
        refine ⟨hm, @fun p l e R s m args below meth c H locs cells slots ls L d mc ms r M' hC hI hMt hf hlo hce hsl => ?_⟩
        have hts := hC.2.2.2.2.1
        obtain ⟨e1, e2, hlen⟩ := gx_stack (g := g) hst ha2
        have hpre := gx_pre (as := (st.take (n + 1)).reverse) hC hI
        rw [e2] at hpre ⊢
        obtain ⟨q, hq, hat⟩ := gx_vwat hC hci
        obtain ⟨cellB, hcB, hoB, hclB⟩ := gx_recv hC hI ha hM hq
        obtain ⟨hfc, kB, hkB, -⟩ := hat
        have hkB2 : s.vm.classes[cellB.cls]? = some kB := by
          have : cellB.cls = (gx_D g).1 ci := Option.some.inj (hclB.symm.trans hfc)
          rw [this]
          exact hkB
        have w1 := hts _ (hw (Cond.methodLink own idx x) (by simp))
        have w2 := hts _ (hw (Cond.sameMethod x.cls owner x.name x.desc) (by simp))
        have w3 := hts _ (hw (Cond.superclass own x.cls) (by simp))
        have w4 := hts _ (hw (Cond.superclass x.cls owner) (by simp))
        have w5 := hts _ (hw (Cond.instanceMethod y.1) (by simp))
        have w6 := hts _ (hw (Cond.initialized y.1.cls) (by simp))
        have w7 := hts _ (hw (Cond.code y.1 y.2.1 y.2.2.1 y.2.2.2) (by simp))
        have hB : Back l R p e below s args y.1 3 8 (PreOf R mc ms (gx_P g (st.take (n + 1)).reverse M)) (PostOf (gx_Q g r M') mc ms (gx_A g)) :=
          back_of (bytes := y.2.1) (maxL := y.2.2.1) (ret := y.2.2.2) hMt (gx_P_blind g _ M) rfl rfl (by show _ + 1 + 1 ≤ _; omega) (by show 8 + (y.2.2.1 + 11) + 64 * (_ + 1) ≤ _; omega) (pay_in hts (gx_ccode (y := y) (hw (Cond.code y.1 y.2.1 y.2.2.1 y.2.2.2) (by simp)))) List.mem_cons_self
            (fun a' U hW => word_at hW (Or.inl (by first | rfl | simp [Cond.onTables, Cond.keeps, Cond.steady])) w6)
        obtain ⟨mk, methM, hnamed, hmethM, hstM, habM⟩ := Cond.instanceMethod_spec w5
        obtain ⟨methM', cM, hmethM', -, -, -, -, -, -, hsigM⟩ := Cond.code_spec hnamed w7
        cases hmethM.symm.trans hmethM'
        obtain ⟨ps, dk, kp, hps, hdk, hkp, hsuper, -, -, hnid⟩ := Cond.superclass_spec hC.2.2.2.1 w3
        obtain ⟨po, dk2, kp2, hpo, hdk2, hkp2, hsuper2, -, -, -⟩ := Cond.superclass_spec hps w4
        rw [hyx] at hnamed hsigM
        have hpm : po = mk.cls := Option.some.inj (hpo.symm.trans (findClass_of_methodNamed hnamed))
        have hsub : s.vm.isSubclass ps mk.cls = true := by
          have hsz : ps < s.vm.classes.size := (Array.getElem?_eq_some_iff.mp hdk2).1
          obtain ⟨k, hk⟩ : ∃ k, s.vm.classes.size = k + 1 := ⟨s.vm.classes.size - 1, (Nat.succ_pred_eq_of_pos (Nat.lt_of_le_of_lt (Nat.zero_le ps) hsz)).symm⟩
          rw [← hpm]
          simp [Vm.isSubclass, hk, Vm.isSubclassAux, hdk2, hsuper2]
        intro T hT X
        obtain ⟨vm₁, X₁, hstep₁⟩ := X.invokespecialUp hC.1 hC.2.2.2.1 w1 w2 hnamed hmethM hstM habM hn.1 hdk hnid hps hsuper hsub (a := gx_b g + a) (cell := cellB) (by rw [hT]; exact hcB) (fun z h => by rw [h] at hoB; cases hoB) hkB2 (g := F0 m pc ls (st.map (gx_v g))) rfl (argsL := ((st.take n).reverse).map (gx_v g)) (rest := (st.drop (n + 1)).map (gx_v g)) (by
          have h2 := hn.2
          rw [hsigM] at h2
          rw [hlen]
          exact (Option.some.inj h2).symm) e1 (by rw [hC.2.1]; exact hd)
        have hX2 := X₁.named hnamed
        rw [← hyx] at hX2
        obtain ⟨v, ⟨U', l2, c2, s2⟩, X', ⟨g', mk2, t, L2, q1, q2, hq2, h1, hL, h2, h3⟩, hsteps⟩ := hB m meth c ⟨T.setVm vm₁, locs, cells, slots⟩ { F0 m pc ls (st.map (gx_v g)) with stack := (st.drop (n + 1)).map (gx_v g) } (.invokespecial idx) mk _ X₁ rfl (hI.2.2.2.1.2.1.trans hC.2.2.1.symm) (by rw [hC.2.1]; exact hd) (gx_room hr) hX2 ⟨hce, hsl, hpre (T.setVm vm₁) hT X₁.warmed⟩
        dsimp only [Pt.U, Pt.locs, Pt.cells, Pt.slots] at X' q1 q2 h1 h2 h3 hsteps
        subst h1; subst h2; subst h3
        exact ⟨v, (T.setVm vm₁).calling g' mk2 _, t, U', L2, hT, X', hL, q1, q2, hq2, fun target h => hstep₁ _ (by rw [doInvoke_state]; exact hsteps.trans h)⟩
      · cases h
    · cases h
  · cases h
/-! texts, statics, the library's members -/
theorem gx_Hst {g : gx_T} {own : String} {cc : ByteArray} {nL : Nat} {rt : Option FieldType} {nm : String} {p : Program} {s : State} {m : MethodId} {args : Array Value} {meth : Method} {c : Code} (hC : gx_C g own cc nL rt nm p s m args meth c) : gx_H g s s.heap := hC.2.2.2.2.2.2.2.2.1.2.2.2
theorem gs_ldcS {g : gx_T} {own : String} {cc : ByteArray} {nL : Nat} {rt : Option FieldType} {nm : String} {pc : Nat} {q : Nat × String × Nat} (hd : decode cc pc = .ok (.ldc q.1, 2)) (ho : own = RX1) (hq : q ∈ gx_tx) : gx_N g own cc nL rt nm pc (gc_k (.ref (1000000 + q.2.2)) 2) := gx_easy (fun L st M x h => by
  unfold gc_k at h
  cases h
  refine ⟨rfl, rfl, fun hC hI _ _ _ _ k => ?_⟩
  obtain ⟨a, e1, e2⟩ := hC.2.2.2.2.2.2.2.2.1.2.2.1.1 q hq
  subst ho
  have hv : gx_v g (.ref (1000000 + q.2.2)) = .ref a := by
    show (if 1000000 + q.2.2 < 1000000 then _ else va_rf (gx_s g (1000000 + q.2.2 - 1000000))) = _
    rw [if_neg (by omega), Nat.add_sub_cancel_left, e1]
    rfl
  rw [List.map_cons, hv] at k
  exact va_ldcS hC.1 hC.2.1 hC.2.2.2.1 e2 hd k)
theorem gs_getsC {g : gx_T} {own : String} {cc : ByteArray} {nL : Nat} {rt : Option FieldType} {nm : String} {pc idx : Nat} (hd : decode cc pc = .ok (.getstatic idx, 3)) (hl : Cond.fieldLink own idx "java/lang/String" "COMPACT_STRINGS" "Z" ∈ gx_WS) : gx_N g own cc nL rt nm pc (gc_k (.int 1) 3) := gx_easy (fun L st M x h => by
  unfold gc_k at h
  cases h
  exact ⟨rfl, rfl, fun hC hI _ _ _ _ k => va_gets hC.1 hC.2.1 (gx_Hst hC).1 hI.2.2.2.2 hC.2.2.2.1 (hC.2.2.2.2.1 _ hl) (fun _ h => h) hd k⟩)
theorem gs_getsF {g : gx_T} {own : String} {cc : ByteArray} {nL : Nat} {rt : Option FieldType} {nm : String} {pc idx : Nat} (hd : decode cc pc = .ok (.getstatic idx, 3)) (hl : Cond.fieldLink own idx "jdk/internal/util/Preconditions" "SIOOBE_FORMATTER" "Ljava/util/function/BiFunction;" ∈ gx_WS) : gx_N g own cc nL rt nm pc (gc_k (.ref 1000030) 3) := gx_easy (fun L st M x h => by
  unfold gc_k at h
  cases h
  exact ⟨rfl, rfl, fun hC hI _ _ _ _ k => va_gets hC.1 hC.2.1 (gx_Hst hC).2.1 hI.2.2.2.2 hC.2.2.2.1 (hC.2.2.2.2.1 _ hl) (fun _ h => h) hd k⟩)
theorem gs_getsK {g : gx_T} {own : String} {cc : ByteArray} {nL : Nat} {rt : Option FieldType} {nm : String} {pc idx : Nat} (hd : decode cc pc = .ok (.getstatic idx, 3)) (hl : Cond.fieldLink own idx "GriefCranes" "KIND_ABOVE" "[I" ∈ gx_WS) : gx_N g own cc nL rt nm pc (gc_k (.ref 1000020) 3) := gx_easy (fun L st M x h => by
  unfold gc_k at h
  cases h
  exact ⟨rfl, rfl, fun hC hI _ _ _ _ k => va_gets hC.1 hC.2.1 (gx_Hst hC).2.2.1 hI.2.2.2.2 hC.2.2.2.1 (hC.2.2.2.2.1 _ hl) (fun _ h => h) hd k⟩)
theorem gx_sref {g : gx_T} {j a : Nat} (h : gx_s g j = some a) : gx_v g (.ref (1000000 + j)) = .ref a := by
  show (if 1000000 + j < 1000000 then _ else va_rf (gx_s g (1000000 + j - 1000000))) = _
  rw [if_neg (by omega), Nat.add_sub_cancel_left, h]
  rfl
theorem gs_sldK {g : gx_T} {own : String} {cc : ByteArray} {nL : Nat} {rt : Option FieldType} {nm : String} {pc : Nat} (hd : decode cc pc = .ok (.iaload, 1)) : gx_N g own cc nL rt nm pc (gc_slda 20 7 (fun j => ([-1, 0, 0, 0, 1, 2, 3] : List Int32).getD j 0)) := gx_easy (fun L st M x h => by
  unfold gc_slda at h
  split at h
  · split at h
    · rename_i hh
      obtain ⟨ha, hin⟩ := hh
      subst ha
      cases h
      refine ⟨rfl, rfl, fun hC hI _ _ _ _ k => ?_⟩
      obtain ⟨a, e1, e2⟩ := (gx_Hst hC).2.2.2.1
      rw [List.map_cons, List.map_cons, gx_sref e1]
      exact va_ti hC.1 hC.2.1 e2 hI.2.2.2.2 hin rfl hd k
    · cases h
  · cases h)
theorem gs_sldX {g : gx_T} {own : String} {cc : ByteArray} {nL : Nat} {rt : Option FieldType} {nm : String} {pc : Nat} (hd : decode cc pc = .ok (.iaload, 1)) : gx_N g own cc nL rt nm pc (gc_slda 40 (gx_n g) (gx_x g)) := gx_easy (fun L st M x h => by
  unfold gc_slda at h
  split at h
  · split at h
    · rename_i hh
      obtain ⟨ha, hin⟩ := hh
      subst ha
      cases h
      refine ⟨rfl, rfl, fun hC hI _ _ _ _ k => ?_⟩
      obtain ⟨a, e1, e2⟩ := (gx_Hst hC).2.2.2.2.2
      rw [List.map_cons, List.map_cons, gx_sref e1]
      exact va_ti hC.1 hC.2.1 e2 hI.2.2.2.2 hin rfl hd k
    · cases h
  · cases h)
theorem gs_slenX {g : gx_T} {own : String} {cc : ByteArray} {nL : Nat} {rt : Option FieldType} {nm : String} {pc : Nat} (hd : decode cc pc = .ok (.arraylength, 1)) : gx_N g own cc nL rt nm pc (gc_salen 40 (gx_n g)) := gx_easy (fun L st M x h => by
  unfold gc_salen at h
  split at h
  · split at h
    · rename_i ha
      subst ha
      cases h
      refine ⟨rfl, rfl, fun hC hI _ _ _ _ k => ?_⟩
      obtain ⟨a, e1, e2⟩ := (gx_Hst hC).2.2.2.2.2
      rw [List.map_cons, gx_sref e1]
      exact va_tlen hC.1 hC.2.1 e2 hI.2.2.2.2 rfl hd k
    · cases h
  · cases h)
theorem gx_txt {a : Nat} (h : 1000000 ≤ a ∧ a < 1000006) : ∃ j, j < 6 ∧ a = 1000000 + j := ⟨a - 1000000, by omega, by omega⟩
theorem gx_txt2 {a : Nat} (h : 1000010 ≤ a ∧ a < 1000016) : ∃ j, j < 6 ∧ a = 1000000 + (10 + j) ∧ a - 1000010 = j := ⟨a - 1000010, by omega, by omega, rfl⟩
theorem gs_txv {g : gx_T} {own : String} {cc : ByteArray} {nL : Nat} {rt : Option FieldType} {nm : String} {pc idx : Nat} (hd : decode cc pc = .ok (.getfield idx, 3)) (hl : Cond.fieldLink own idx "java/lang/String" "value" "[B" ∈ gx_WS) : gx_N g own cc nL rt nm pc gc_txv := gx_easy (fun L st M x h => by
  unfold gc_txv at h
  split at h
  · split at h
    · rename_i hh
      cases h
      refine ⟨rfl, rfl, fun hC hI _ _ _ _ k => ?_⟩
      obtain ⟨j, hj, rfl⟩ := gx_txt hh
      obtain ⟨adK, adV, e1, e2⟩ := (gx_Hst hC).2.2.2.2.1
      obtain ⟨e3, e4⟩ := e1 j hj
      obtain ⟨-, -, f3, -⟩ := e2.1 j hj
      rw [List.map_cons, show 1000000 + j + 10 = 1000000 + (10 + j) by omega, gx_sref e4] at k
      rw [List.map_cons, gx_sref e3]
      exact vk_getf hC.1 hC.2.1 f3 hI.2.2.2.2 hC.2.2.2.1 (hC.2.2.2.2.1 _ hl) (fun _ h => h) hd k
    · cases h
  · cases h)
theorem gs_txc {g : gx_T} {own : String} {cc : ByteArray} {nL : Nat} {rt : Option FieldType} {nm : String} {pc idx : Nat} (hd : decode cc pc = .ok (.getfield idx, 3)) (hl : Cond.fieldLink own idx "java/lang/String" "coder" "B" ∈ gx_WS) : gx_N g own cc nL rt nm pc gc_txc := gx_easy (fun L st M x h => by
  unfold gc_txc at h
  split at h
  · split at h
    · rename_i hh
      cases h
      refine ⟨rfl, rfl, fun hC hI _ _ _ _ k => ?_⟩
      obtain ⟨j, hj, rfl⟩ := gx_txt hh
      obtain ⟨adK, adV, e1, e2⟩ := (gx_Hst hC).2.2.2.2.1
      obtain ⟨e3, e4⟩ := e1 j hj
      obtain ⟨-, f2, -, -⟩ := e2.1 j hj
      rw [List.map_cons, gx_sref e3]
      exact vk_getf hC.1 hC.2.1 f2 hI.2.2.2.2 hC.2.2.2.1 (hC.2.2.2.2.1 _ hl) (fun _ h => h) hd k
    · cases h
  · cases h)
theorem gx_bytlen : ∀ j, j < 6 → gx_len.getD j 0 = (gc_txb j).length ∧ gx_byt.getD j [] = gc_txb j := by decide +kernel
theorem gs_txl {g : gx_T} {own : String} {cc : ByteArray} {nL : Nat} {rt : Option FieldType} {nm : String} {pc : Nat} (hd : decode cc pc = .ok (.arraylength, 1)) : gx_N g own cc nL rt nm pc gc_txl := gx_easy (fun L st M x h => by
  unfold gc_txl at h
  split at h
  · split at h
    · rename_i hh
      cases h
      refine ⟨rfl, rfl, fun hC hI _ _ _ _ k => ?_⟩
      obtain ⟨j, hj, rfl, ej⟩ := gx_txt2 hh
      obtain ⟨adK, adV, e1, e2⟩ := (gx_Hst hC).2.2.2.2.1
      obtain ⟨e3, e4⟩ := e1 j hj
      obtain ⟨-, -, -, f4⟩ := e2.1 j hj
      rw [List.map_cons, gx_sref e4]
      exact va_tlen hC.1 hC.2.1 f4 hI.2.2.2.2 (by rw [ej, (gx_bytlen j hj).1]) hd k
    · cases h
  · cases h)
theorem gs_txa {g : gx_T} {own : String} {cc : ByteArray} {nL : Nat} {rt : Option FieldType} {nm : String} {pc : Nat} (hd : decode cc pc = .ok (.baload, 1)) : gx_N g own cc nL rt nm pc gc_txa := gx_easy (fun L st M x h => by
  unfold gc_txa at h
  split at h
  · split at h
    · rename_i hh
      obtain ⟨h1, h2, hin⟩ := hh
      cases h
      refine ⟨rfl, rfl, fun hC hI _ _ _ _ k => ?_⟩
      obtain ⟨j, hj, rfl, ej⟩ := gx_txt2 ⟨h1, h2⟩
      obtain ⟨adK, adV, e1, e2⟩ := (gx_Hst hC).2.2.2.2.1
      obtain ⟨e3, e4⟩ := e1 j hj
      obtain ⟨-, -, -, f4⟩ := e2.1 j hj
      rw [ej, ← (gx_bytlen j hj).1] at hin
      rw [List.map_cons, List.map_cons, gx_sref e4]
      exact va_tb hC.1 hC.2.1 f4 hI.2.2.2.2 hin (by rw [(gx_bytlen j hj).2, ej]; rfl) hd k
    · cases h
  · cases h)
theorem gs_ct {g : gx_T} {md : Nat → gx_Y} {own : String} {cc : ByteArray} {nL : Nat} {rt : Option FieldType} {nm : String} {pc idx m2 n : Nat} {y : gx_Y} (hd : decode cc pc = .ok (.invokevirtual idx, 3)) (hy : md m2 = y) (hyc : y.1.cls = "java/lang/String") (hw : ∀ w ∈ [Cond.methodLink own idx y.1, Cond.instanceMethod y.1, Cond.selects "java/lang/String" y.1 y.1, Cond.initialized y.1.cls, Cond.code y.1 y.2.1 y.2.2.1 y.2.2.2], w ∈ gx_WS) (hn : (parseMethodDescriptor y.1.desc).map (fun d => d.parameters.length) = some n) (hm : y.2.2.1 ≤ 40) : gx_CN g md own cc nL rt nm pc (gc_ct m2 n) := by
  intro st M m2' as rest h
  unfold gc_ct at h
  split at h
  · rename_i a hst
    split at h
    · rename_i hh
      obtain ⟨h1, h2, hr⟩ := hh
      cases h
      rw [hy]
      refine ⟨hm, fun hC hI hMt hf hlo hce hsl => ?_⟩
      have hts := hC.2.2.2.2.1
      obtain ⟨j, hj, rfl⟩ := gx_txt ⟨h1, h2⟩
      obtain ⟨adK, adV, e1, e2⟩ := (gx_Hst hC).2.2.2.2.1
      obtain ⟨e3, -⟩ := e1 j hj
      have hlt : n < st.length := (List.getElem?_eq_some_iff.mp hst).1
      have hge : st[n] = .ref (1000000 + j) := (List.getElem?_eq_some_iff.mp hst).2
      have e0 : (st.take (n + 1)).reverse = .ref (1000000 + j) :: (st.take n).reverse := by
        rw [List.take_succ_eq_append_getElem hlt, List.reverse_append, hge]
        rfl
      have s1 : st.map (gx_v g) = (((st.take n).reverse).map (gx_v g)).reverse ++ .ref (adK j) :: (st.drop (n + 1)).map (gx_v g) := by
        rw [← List.map_reverse, List.reverse_reverse, show Value.ref (adK j) = gx_v g (.ref (1000000 + j)) from (gx_sref e3).symm, ← List.map_cons, ← List.map_append, ← hge, ← List.drop_eq_getElem_cons hlt, List.take_append_drop]
      have s2 : ((st.take (n + 1)).reverse).map (gx_v g) = .ref (adK j) :: ((st.take n).reverse).map (gx_v g) := by
        rw [e0, List.map_cons, gx_sref e3]
      have hpre := gx_pre (as := (st.take (n + 1)).reverse) hC hI
      rw [s2] at hpre ⊢
      exact va_runV (C := "java/lang/String") (As := ((st.take n).reverse).map (gx_v g)) ⟨hC.1, hC.2.1, hC.2.2.1, hC.2.2.2.1, hts⟩ hMt ⟨gx_callB (y := y) hts (hw (Cond.code y.1 y.2.1 y.2.2.1 y.2.2.2) (by simp)) hm (hw _ (by simp)) (hw _ (by simp)) ⟨by rw [hyc]; decide, by rw [hyc]; decide, hn⟩ hf hlo, hts _ (hw _ (by simp)), hts _ (hw _ (by simp))⟩
        ⟨gx_P_blind g _ M, vk_recv e2 hj hI.2.2.2.2, hpre⟩ rfl (by simp; omega) hI.2.2.2.1.2.1 s1 (gx_room hr) hd ⟨hce, hsl⟩
    · cases h
  · cases h
theorem gs_min {g : gx_T} {own : String} {cc : ByteArray} {nL : Nat} {rt : Option FieldType} {nm : String} {pc idx : Nat} (hd : decode cc pc = .ok (.invokestatic idx, 3)) (hw : ∀ w ∈ [Cond.methodLink own idx Lib.Math.min.name, Cond.static Lib.Math.min.name, Cond.initialized "java/lang/Math", Cond.code Lib.Math.min.name Lib.Math.min.code 2 (some .int)], w ∈ gx_WS) : gx_N g own cc nL rt nm pc (gc_mm (fun x y => if y < x then y else x)) := gx_easy (fun L st M x h => by
  unfold gc_mm at h
  split at h
  · split at h
    · rename_i hr
      cases h
      refine ⟨rfl, rfl, fun hC hI hfr hlo hce hsl k => ?_⟩
      exact va_mmin hC.1 hC.2.1 (hC.2.2.1.trans hI.2.2.2.1.2.1.symm) hC.2.2.2.1 (hC.2.2.2.2.1 _ (hw _ (by simp))) (hC.2.2.2.2.1 _ (hw _ (by simp))) (hC.2.2.2.2.1 _ (hw _ (by simp))) (hC.2.2.2.2.1 _ (hw _ (by simp))) hfr (by rw [gx_cats]; omega) hce hsl hd k
    · cases h
  · cases h)
theorem gs_max {g : gx_T} {own : String} {cc : ByteArray} {nL : Nat} {rt : Option FieldType} {nm : String} {pc idx : Nat} (hd : decode cc pc = .ok (.invokestatic idx, 3)) (hw : ∀ w ∈ [Cond.methodLink own idx Lib.Math.max.name, Cond.static Lib.Math.max.name, Cond.initialized "java/lang/Math", Cond.code Lib.Math.max.name Lib.Math.max.code 2 (some .int)], w ∈ gx_WS) : gx_N g own cc nL rt nm pc (gc_mm (fun x y => if x < y then y else x)) := gx_easy (fun L st M x h => by
  unfold gc_mm at h
  split at h
  · split at h
    · rename_i hr
      cases h
      refine ⟨rfl, rfl, fun hC hI hfr hlo hce hsl k => ?_⟩
      exact va_mmax hC.1 hC.2.1 (hC.2.2.1.trans hI.2.2.2.1.2.1.symm) hC.2.2.2.1 (hC.2.2.2.2.1 _ (hw _ (by simp))) (hC.2.2.2.2.1 _ (hw _ (by simp))) (hC.2.2.2.2.1 _ (hw _ (by simp))) (hC.2.2.2.2.1 _ (hw _ (by simp))) hfr (by rw [gx_cats]; omega) hce hsl hd k
    · cases h
  · cases h)
theorem gs_cpI {g : gx_T} {own : String} {cc : ByteArray} {nL : Nat} {rt : Option FieldType} {nm : String} {pc idx : Nat} (hd : decode cc pc = .ok (.invokestatic idx, 3)) (hw : ∀ w ∈ [Cond.methodLink own idx arraycopyName, Cond.native arraycopyName, Cond.static arraycopyName, Cond.initialized "java/lang/System"], w ∈ gx_WS) : gx_N g own cc nL rt nm pc gc_cpI := gx_mem1 (fun L st M x h => by
  unfold gc_cpI at h
  split at h
  · rename_i n dp b sp a r
    split at h
    · rename_i t n0 f t' n1 g2 hMa hMb
      split at h
      · rename_i hh
        obtain ⟨ha, ha2, hb, hb2, ht, ht2, h1, h2, h3, h4, h5, hr⟩ := hh
        subst ht; subst ht2; subst hr
        cases h
        refine ⟨b, _, hb, rfl, rfl, fun hC hI hfr hlo k2 => ?_⟩
        have hwa := gx_w_get g ha
        rw [hMa] at hwa
        have hwb := gx_w_get g hb
        rw [hMb] at hwb
        simp only [List.map_cons, List.map_nil]
        rw [show gx_v g (.ref a) = .ref (gx_b g + a) from if_pos ha2, show gx_v g (.ref b) = .ref (gx_b g + b) from if_pos hb2]
        exact va_copyi hC.1 hC.2.1 (hC.2.2.1.trans hI.2.2.2.1.2.1.symm) hC.2.2.2.1 (hC.2.2.2.2.1 _ (hw _ (by simp))) (hC.2.2.2.2.1 _ (hw _ (by simp))) (hC.2.2.2.2.1 _ (hw _ (by simp))) (hC.2.2.2.2.1 _ (hw _ (by simp))) hC.2.2.2.2.2.2.2.2.1.1 hI.1 (gx_wD g M) hI.2.2.2.2 a b 0 0 hwa hwb rfl rfl rfl h1 h2 h3 h4 h5 (fun _ _ => rfl) hfr (by show 0 + (7 + 11) ≤ _; omega) hd (fun H1 locs1 hP1 _ hS1 => k2 H1 locs1 hP1 hS1)
      · cases h
    · cases h
  · cases h)
theorem gs_cpL {g : gx_T} {own : String} {cc : ByteArray} {nL : Nat} {rt : Option FieldType} {nm : String} {pc idx : Nat} (hd : decode cc pc = .ok (.invokestatic idx, 3)) (hw : ∀ w ∈ [Cond.methodLink own idx arraycopyName, Cond.native arraycopyName, Cond.static arraycopyName, Cond.initialized "java/lang/System"], w ∈ gx_WS) : gx_N g own cc nL rt nm pc gc_cpL := gx_mem1 (fun L st M x h => by
  unfold gc_cpL at h
  split at h
  · rename_i n dp b sp a r
    split at h
    · rename_i t n0 f t' n1 g2 hMa hMb
      split at h
      · rename_i hh
        obtain ⟨ha, ha2, hb, hb2, ht, ht2, h1, h2, h3, h4, h5, hr⟩ := hh
        subst ht; subst ht2; subst hr
        cases h
        refine ⟨b, _, hb, rfl, rfl, fun hC hI hfr hlo k2 => ?_⟩
        have hwa := gx_w_get g ha
        rw [hMa] at hwa
        have hwb := gx_w_get g hb
        rw [hMb] at hwb
        simp only [List.map_cons, List.map_nil]
        rw [show gx_v g (.ref a) = .ref (gx_b g + a) from if_pos ha2, show gx_v g (.ref b) = .ref (gx_b g + b) from if_pos hb2]
        exact va_copyl hC.1 hC.2.1 (hC.2.2.1.trans hI.2.2.2.1.2.1.symm) hC.2.2.2.1 (hC.2.2.2.2.1 _ (hw _ (by simp))) (hC.2.2.2.2.1 _ (hw _ (by simp))) (hC.2.2.2.2.1 _ (hw _ (by simp))) (hC.2.2.2.2.1 _ (hw _ (by simp))) hC.2.2.2.2.2.2.2.2.1.1 hI.1 (gx_wD g M) hI.2.2.2.2 a b 2 2 hwa hwb rfl rfl rfl h1 h2 h3 h4 h5 (fun _ _ => rfl) hfr (by show 0 + (7 + 11) ≤ _; omega) hd (fun H1 locs1 hP1 _ hS1 => k2 H1 locs1 hP1 hS1)
      · cases h
    · cases h
  · cases h)
