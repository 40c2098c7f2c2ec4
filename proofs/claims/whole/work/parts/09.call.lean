/-! calls: a method's contract out of its run, and a row a kind of call -/
abbrev gx_Y : Type := MethodName × ByteArray × Nat × Option FieldType
def gx_Q (g : gx_T) (r : Option Value) (M : gc_M) : Array Value → State → Outcome → State → Prop := fun _ st o t => o = .returned (r.map (gx_v g)) ∧ va_P (gx_D g) vwCl (gx_w g M) t.heap ∧ t.heap.size = gx_b g + M.1 ∧ ∀ q : Nat, q < gx_b g → t.heap[q]? = st.heap[q]?
def gx_P (g : gx_T) (as : List Value) (M : gc_M) : Array Value → State → Prop := fun v U => v = (as.map (gx_v g)).toArray ∧ va_P (gx_D g) vwCl (gx_w g M) U.heap ∧ U.heap.size = gx_b g + M.1 ∧ gx_G g U
theorem gx_P_blind (g : gx_T) (as : List Value) (M : gc_M) : FrameBlind (gx_P g as M) := fun a U f mk h => ⟨h.1, h.2.1, h.2.2.1, h.2.2.2.blind⟩
def gx_rm (d mc ms : Nat) : Room := { frames := d + 1, cells := mc, slots := ms, locals := 64 * (d + 1) }
abbrev gx_M (l : Launch) (g : gx_T) (y : gx_Y) (d mc ms : Nat) (as : List Value) (M : gc_M) (r : Option Value) (M' : gc_M) : Prop :=
  Met l y.1 (Cond.code y.1 y.2.1 y.2.2.1 y.2.2.2 :: gx_WS) (gx_rm d mc ms) (gx_P g as M) (gx_Q g r M') mc ms (gx_A g)
/-- an instruction that calls -/
def gx_CN (g : gx_T) (md : Nat → gx_Y) (own : String) (cc : ByteArray) (nL : Nat) (rt : Option FieldType) (nm : String) (pc : Nat) (f : gc_G) : Prop :=
  ∀ (st : List Value) (M : gc_M) (m2 : Nat) (as rest : List Value), f st M = some (m2, as, rest) → (md m2).2.2.1 ≤ 40 ∧
    ∀ {p : Program} {l : Launch} {e : Env} {R : Room} {s : State} {m : MethodId} {args : Array Value} {below : List Frame} {meth : Method} {c : Code} {H : Heap} {locs : List Loc} {cells slots : Nat} {ls : Array Slot} {L : gc_L} {d mc ms : Nat} {r : Option Value} {M' : gc_M},
      gx_C g own cc nL rt nm p s m args meth c → gx_I g nL s L M H locs cells ls → gx_M l g (md m2) d mc ms as M r M' → d + 2 ≤ R.frames → 64 * (d + 2) ≤ R.locals → cells + mc ≤ R.cells → slots + ms ≤ R.slots →
      va_Run p l e R s m args below meth c H locs cells slots mc ms (F0 m pc ls (st.map (gx_v g))) (rest.map (gx_v g)) (gx_Q g r M' (as.map (gx_v g)).toArray) (gx_A g)
theorem gx_pre {g : gx_T} {own : String} {cc : ByteArray} {nL : Nat} {rt : Option FieldType} {nm : String} {p : Program} {s : State} {m : MethodId} {args : Array Value} {meth : Method} {c : Code} {L : gc_L} {M : gc_M} {H : Heap} {locs : List Loc} {cells : Nat} {ls : Array Slot} {as : List Value}
    (hC : gx_C g own cc nL rt nm p s m args meth c) (hI : gx_I g nL s L M H locs cells ls) : ∀ U : State, U.heap = H → s.WarmedH U.vm → gx_P g as M (as.map (gx_v g)).toArray U := by
  intro U hU hW
  refine ⟨rfl, by rw [hU]; exact hI.1, by rw [hU]; exact hI.2.1, hC.2.2.2.2.2.2.2.2.1.warm hW (fun a h1 h2 => ?_)⟩
  rw [hU]
  exact hI.2.2.2.2.2.1 a h1 h2
theorem gx_callB {R : Room} {s : State} {args : Array Value} {own : String} {idx : Nat} {y : gx_Y} {d mc ms n : Nat} (hts : ∀ w ∈ gx_WS, w.before args s = true) (hc : Cond.code y.1 y.2.1 y.2.2.1 y.2.2.2 ∈ gx_WS) (hm : y.2.2.1 ≤ 40) (hi : Cond.initialized y.1.cls ∈ gx_WS) (hl : Cond.methodLink own idx y.1 ∈ gx_WS) (hd : y.1.cls ≠ "java/lang/invoke/MethodHandle" ∧ y.1.cls ≠ "java/lang/invoke/VarHandle" ∧ (parseMethodDescriptor y.1.desc).map (fun d => d.parameters.length) = some n) (hf : d + 2 ≤ R.frames) (hlo : 64 * (d + 2) ≤ R.locals) :
    CallB R s args own idx y.1 y.2.1 y.2.2.1 y.2.2.2 (Cond.code y.1 y.2.1 y.2.2.1 y.2.2.2 :: gx_WS) (gx_rm d mc ms) mc ms n := by
  refine callB_of n hts (gx_WS_good _ (fun w hw => ?_)) rfl rfl rfl (hts _ hi) (hts _ hl) hd ⟨?_, ?_⟩
  · rcases List.mem_cons.mp hw with rfl | h
    · exact hc
    · exact h
  · show d + 1 + 1 ≤ R.frames
    omega
  · show 8 + (y.2.2.1 + 11) + 64 * (d + 1) ≤ R.locals
    omega
theorem gx_room {g : gx_T} {m : MethodId} {pc : Nat} {ls : Array Slot} {st : List Value} {r : List Value} (h : (r.map Value.category).sum ≤ 8) : 2 * (F0 m pc ls st).monitorRoom + ((r.map (gx_v g)).map fun v => v.category).sum ≤ 8 := by
  rw [gx_cats]
  show 2 * 0 + _ ≤ 8
  omega
theorem gs_cs {g : gx_T} {md : Nat → gx_Y} {own : String} {cc : ByteArray} {nL : Nat} {rt : Option FieldType} {nm : String} {pc idx m2 n : Nat} {y : gx_Y} (hd : decode cc pc = .ok (.invokestatic idx, 3)) (hy : md m2 = y) (hw : ∀ w ∈ [Cond.methodLink own idx y.1, Cond.static y.1, Cond.initialized y.1.cls, Cond.code y.1 y.2.1 y.2.2.1 y.2.2.2], w ∈ gx_WS) (hn : y.1.cls ≠ "java/lang/invoke/MethodHandle" ∧ y.1.cls ≠ "java/lang/invoke/VarHandle" ∧ (parseMethodDescriptor y.1.desc).map (fun d => d.parameters.length) = some n) (hm : y.2.2.1 ≤ 40) : gx_CN g md own cc nL rt nm pc (gc_cs m2 n) := by
  intro st M m2' as rest h
  unfold gc_cs at h
  split at h
  · rename_i hh
    cases h
    rw [hy]
    refine ⟨hm, fun hC hI hM hf hlo hce hsl => ?_⟩
    have hts := hC.2.2.2.2.1
    exact va_runS (As := ((st.take n).reverse).map (gx_v g)) ⟨hC.1, hC.2.1, hC.2.2.1, hC.2.2.2.1, hts⟩ hM ⟨gx_callB hts (hw _ (by simp)) hm (hw _ (by simp)) (hw _ (by simp)) hn hf hlo, hts _ (hw _ (by simp))⟩ ⟨gx_P_blind g _ M, gx_pre hC hI⟩ rfl (by simp [hh.1]) hI.2.2.2.1.2.1 (by
      show st.map (gx_v g) = _
      rw [← List.map_reverse, List.reverse_reverse, ← List.map_append, List.take_append_drop]) (gx_room hh.2) hd ⟨hce, hsl⟩
  · cases h
/-- the receiver -/
theorem gx_recv {g : gx_T} {own : String} {cc : ByteArray} {nL : Nat} {rt : Option FieldType} {nm : String} {p : Program} {s : State} {m : MethodId} {args : Array Value} {meth : Method} {c : Code} {L : gc_L} {M : gc_M} {H : Heap} {locs : List Loc} {cells : Nat} {ls : Array Slot} {a ci : Nat} {fs : List Value} {q : vw_C}
    (hC : gx_C g own cc nL rt nm p s m args meth c) (hI : gx_I g nL s L M H locs cells ls) (ha : a < M.1) (hM : M.2.2 a = .inl (ci, fs)) (hq : vwCl[ci]? = some q) : ∃ cell : Cell, H[gx_b g + a]? = some cell ∧ cell.vm.isStatics = false ∧ s.vm.findClass q.1 = some cell.cls := by
  have hw := gx_w_get g ha
  rw [hM] at hw
  exact va_recv hC.2.2.2.2.2.2.2.2.1.1 hI.1 hq hw
/-- the class ci's receiver runs y: y is its own, or stands under another name x of its owner's -/
def gx_sV (own : String) (idx n ci : Nat) (y : gx_Y) : Prop := ∃ q : vw_C, vwCl[ci]? = some q ∧ y.2.2.1 ≤ 40 ∧ (parseMethodDescriptor y.1.desc).map (fun d => d.parameters.length) = some n ∧ (y.1.cls ≠ "java/lang/invoke/MethodHandle" ∧ y.1.cls ≠ "java/lang/invoke/VarHandle") ∧
  (∀ w ∈ [Cond.methodLink own idx y.1, Cond.instanceMethod y.1, Cond.selects q.1 y.1 y.1, Cond.initialized y.1.cls, Cond.code y.1 y.2.1 y.2.2.1 y.2.2.2], w ∈ gx_WS)
def gx_sU (own : String) (idx n ci : Nat) (y : gx_Y) : Prop := ∃ (q : vw_C) (x : MethodName) (owner : String) (z : gx_Y), vwCl[ci]? = some q ∧ y.2.2.1 ≤ 40 ∧ (parseMethodDescriptor x.desc).map (fun d => d.parameters.length) = some n ∧ (owner ≠ "java/lang/invoke/MethodHandle" ∧ owner ≠ "java/lang/invoke/VarHandle") ∧ z.1 = ⟨owner, x.name, x.desc⟩ ∧
  (∀ w ∈ [Cond.methodLink own idx x, Cond.sameMethod x.cls owner x.name x.desc, Cond.instanceMethod z.1, Cond.code z.1 z.2.1 z.2.2.1 z.2.2.2, Cond.selects q.1 x y.1, Cond.instanceMethod y.1, Cond.initialized y.1.cls, Cond.code y.1 y.2.1 y.2.2.1 y.2.2.2], w ∈ gx_WS)
theorem gs_cv {g : gx_T} {md : Nat → gx_Y} {own : String} {cc : ByteArray} {nL : Nat} {rt : Option FieldType} {nm : String} {pc idx n : Nat} {tab : List (Nat × Nat)} (hd : decode cc pc = .ok (.invokevirtual idx, 3)) (hs : ∀ q ∈ tab, gx_sV own idx n q.1 (md q.2) ∨ gx_sU own idx n q.1 (md q.2)) : gx_CN g md own cc nL rt nm pc (gc_cv n tab) := by
  intro st M m2' as rest h
  unfold gc_cv at h
  split at h
  · rename_i a hst
    split at h
    · rename_i ci fs hM
      split at h
      · rename_i m2 htab
        split at h
        · rename_i hh
          obtain ⟨ha, ha2, hr⟩ := hh
          cases h
          have hin : (ci, m2') ∈ tab := by
            obtain ⟨l1, l2, e1, -⟩ := List.lookup_eq_some_iff.mp htab
            rw [e1]
            simp
          have hlt : n < st.length := (List.getElem?_eq_some_iff.mp hst).1
          have hge : st[n] = .ref a := (List.getElem?_eq_some_iff.mp hst).2
          have e0 : (st.take (n + 1)).reverse = .ref a :: (st.take n).reverse := by
            rw [List.take_succ_eq_append_getElem hlt, List.reverse_append, hge]
            rfl
          have e1 : st.map (gx_v g) = (((st.take n).reverse).map (gx_v g)).reverse ++ .ref (gx_b g + a) :: (st.drop (n + 1)).map (gx_v g) := by
            rw [← List.map_reverse, List.reverse_reverse, show Value.ref (gx_b g + a) = gx_v g (.ref a) from (if_pos ha2).symm, ← List.map_cons, ← List.map_append, ← hge, ← List.drop_eq_getElem_cons hlt, List.take_append_drop]
          have e2 : ((st.take (n + 1)).reverse).map (gx_v g) = .ref (gx_b g + a) :: ((st.take n).reverse).map (gx_v g) := by
            rw [e0, List.map_cons, show gx_v g (.ref a) = .ref (gx_b g + a) from if_pos ha2]
          have hlen : (((st.take n).reverse).map (gx_v g)).length = n := by simp; omega
          have fin : (md m2').2.2.1 ≤ 40 := by
            rcases hs _ hin with ⟨q, -, h, -⟩ | ⟨q, x, o, z, -, h, -⟩ <;> exact h
          refine ⟨fin, fun hC hI hMt hf hlo hce hsl => ?_⟩
          have hts := hC.2.2.2.2.1
          have hpre := gx_pre (as := (st.take (n + 1)).reverse) hC hI
          rw [e2] at hpre ⊢
          rcases hs _ hin with ⟨q, hq, hm, hn, hy, hw⟩ | ⟨q, x, owner, z, hq, hm, hn, hy, hz, hw⟩
          · exact va_runV (C := q.1) (As := ((st.take n).reverse).map (gx_v g)) ⟨hC.1, hC.2.1, hC.2.2.1, hC.2.2.2.1, hts⟩ hMt ⟨gx_callB hts (hw _ (by simp)) hm (hw _ (by simp)) (hw _ (by simp)) ⟨hy.1, hy.2, hn⟩ hf hlo, hts _ (hw _ (by simp)), hts _ (hw _ (by simp))⟩
              ⟨gx_P_blind g _ M, gx_recv hC hI ha hM hq, hpre⟩ rfl hlen hI.2.2.2.1.2.1 e1 (gx_room hr) hd ⟨hce, hsl⟩
          · refine va_runU (bytes := (md m2').2.1) (maxL := (md m2').2.2.1) (ret := (md m2').2.2.2) (C := q.1) (owner := owner) (x := x) (As := ((st.take n).reverse).map (gx_v g)) ⟨hC.1, hC.2.1, hC.2.2.1, hC.2.2.2.1, hts⟩ hMt ?_ ⟨gx_P_blind g _ M, gx_recv hC hI ha hM hq, hpre⟩ rfl hlen hI.2.2.2.1.2.1 e1 (gx_room hr) hd ⟨hce, hsl⟩
            refine ⟨⟨rfl, rfl, ?_, ?_, pay_in hts (gx_WS_good _ (fun w hw2 => ?_)), List.mem_cons_self⟩, hts _ (hw _ (by simp)), hts _ (hw _ (by simp)), hy, fun sig hsig => ?_, hts _ (hw _ (by simp)), hts _ (hw _ (by simp)), ?_, hts _ (hw _ (by simp)), hts _ (hw _ (by simp))⟩
            · show _ + 1 + 1 ≤ _
              omega
            · show 8 + ((md m2').2.2.1 + 11) + 64 * (_ + 1) ≤ _
              omega
            · rcases List.mem_cons.mp hw2 with rfl | h2
              · exact hw _ (by simp)
              · exact h2
            · rw [hsig] at hn
              exact (Option.some.inj hn).symm
            · rw [← hz]
              exact va_Decl.of (hts _ (hw (Cond.instanceMethod z.1) (by simp))) (hts _ (hw (Cond.code z.1 z.2.1 z.2.2.1 z.2.2.2) (by simp)))
        · cases h
      · cases h
    · cases h
  · cases h
