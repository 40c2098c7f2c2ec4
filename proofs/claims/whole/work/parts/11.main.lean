/-! returns, and the whole: what the abstract machine comes to, the machine comes to -/
def gx_RN (g : gx_T) (own : String) (cc : ByteArray) (nL : Nat) (rt : Option FieldType) (nm : String) (pc : Nat) (h : gc_R) : Prop :=
  ∀ (st : List Value) (r : Option Value), h st = some r →
    ∀ {p : Program} {l : Launch} {e : Env} {R : Room} {s : State} {m : MethodId} {args : Array Value} {below : List Frame} {meth : Method} {c : Code} {H : Heap} {locs : List Loc} {cells slots : Nat} {ls : Array Slot} {L : gc_L} {M : gc_M},
      gx_C g own cc nL rt nm p s m args meth c → gx_I g nL s L M H locs cells ls → W p l e R s m args below meth c H locs cells slots (MQ below (gx_Q g r M) args s cells slots (gx_A g)) (F0 m pc ls (st.map (gx_v g)))
theorem gx_ret {g : gx_T} {own : String} {cc : ByteArray} {nL : Nat} {rt : Option FieldType} {nm : String} {p : Program} {s : State} {m : MethodId} {args : Array Value} {meth : Method} {c : Code} {L : gc_L} {M : gc_M} {H : Heap} {locs : List Loc} {cells : Nat} {ls : Array Slot} {r : Option Value}
    (hC : gx_C g own cc nL rt nm p s m args meth c) (hI : gx_I g nL s L M H locs cells ls) : ∀ t : State, t.heap = H → s.WarmedH t.vm → gx_Q g r M args s (.returned (r.map (gx_v g))) t := by
  intro t ht _
  refine ⟨rfl, by rw [ht]; exact hI.1, by rw [ht]; exact hI.2.1, fun q hq => ?_⟩
  rw [ht]
  exact hI.2.2.2.2.2.1 q (Nat.lt_of_lt_of_le hq hC.2.2.2.2.2.2.2.2.2) (Nat.not_le.mpr hq)
theorem gs_rv {g : gx_T} {own : String} {cc : ByteArray} {nL : Nat} {nm : String} {pc : Nat} (hd : decode cc pc = .ok (.return_, 1)) : gx_RN g own cc nL none nm pc gc_rv := by
  intro st r h p l e R s m args below meth c H locs cells slots ls L M hC hI
  unfold gc_rv at h
  split at h
  · cases h
    exact W.vret hC.1 hC.2.1 hC.2.2.2.2.2.1 (gx_ret (r := none) hC hI) hI.2.2.2.2.2.2 hd hC.2.2.2.2.2.2.1
  · cases h
theorem gs_ri {g : gx_T} {own : String} {cc : ByteArray} {nL : Nat} {nm : String} {pc : Nat} (hd : decode cc pc = .ok (.ireturn, 1)) : gx_RN g own cc nL (some .int) nm pc gc_ri := by
  intro st r h p l e R s m args below meth c H locs cells slots ls L M hC hI
  unfold gc_ri at h
  split at h
  · rename_i x
    cases h
    exact W.iret hC.1 hC.2.1 hC.2.2.2.2.2.1 (gx_ret (r := some (.int x)) hC hI) hI.2.2.2.2.2.2 hd hC.2.2.2.2.2.2.1
  · cases h
theorem gs_rl {g : gx_T} {own : String} {cc : ByteArray} {nL : Nat} {nm : String} {pc : Nat} (hd : decode cc pc = .ok (.lreturn, 1)) : gx_RN g own cc nL (some .long) nm pc gc_rl := by
  intro st r h p l e R s m args below meth c H locs cells slots ls L M hC hI
  unfold gc_rl at h
  split at h
  · rename_i x
    cases h
    exact W.lret hC.1 hC.2.1 hC.2.2.2.2.2.1 (gx_ret (r := some (.long x)) hC hI) hI.2.2.2.2.2.2 hd hC.2.2.2.2.2.2.1
  · cases h
theorem gx_narI (ty : FieldType) (h : ty = .boolean ∨ ty = .byte ∨ ty = .char ∨ ty = .short) (x : Int32) (hx : vp_nar ty x = x) : narrow ty (.int x) = .int x := by
  rcases h with rfl | rfl | rfl | rfl <;> exact congrArg Value.int hx
theorem gs_rn {g : gx_T} {own : String} {cc : ByteArray} {nL : Nat} {nm : String} {pc : Nat} {ty : FieldType} (hd : decode cc pc = .ok (.ireturn, 1)) (hty : ty = .boolean ∨ ty = .byte ∨ ty = .char ∨ ty = .short) : gx_RN g own cc nL (some ty) nm pc (gc_rn ty) := by
  intro st r h p l e R s m args below meth c H locs cells slots ls L M hC hI
  unfold gc_rn at h
  split at h
  · rename_i x
    split at h
    · rename_i hx
      cases h
      exact W.zret hC.1 hC.2.1 hC.2.2.2.2.2.1 (gx_narI ty hty x hx) (gx_ret (r := some (.int x)) hC hI) hI.2.2.2.2.2.2 hd hC.2.2.2.2.2.2.1
    · cases h
  · cases h
def gx_E (g : gx_T) (md : Nat → gx_Y) (own : String) (cc : ByteArray) (nL : Nat) (rt : Option FieldType) (nm : String) (pc : Nat) (e : gc_E) : Prop := match e with
  | .inl f => gx_N g own cc nL rt nm pc f
  | .inr (.inl f) => gx_CN g md own cc nL rt nm pc f
  | .inr (.inr h) => gx_RN g own cc nL rt nm pc h
def gx_Tb (g : gx_T) (P : Nat → Nat → Option gc_E) (md : Nat → gx_Y) : Prop := ∀ (mid pc : Nat) (e : gc_E), P mid pc = some e → plainName (md mid).1.cls = true ∧ gx_E g md (md mid).1.cls (md mid).2.1 (md mid).2.2.1 (md mid).2.2.2 (md mid).1.name pc e
set_option maxHeartbeats 4000000 in
theorem gx_sound {g : gx_T} {P : Nat → Nat → Option gc_E} {md : Nat → gx_Y} (hT : gx_Tb g P md) (n : Nat) : ∀ (d mid pc : Nat) (L : gc_L) (st : List Value) (M : gc_M) (r : Option Value) (M' : gc_M), gc_run P (fun k => (md k).2.2.1) n d mid pc L st M = some (r, M') →
    M.1 ≤ M'.1 ∧ M.2.1 ≤ M'.2.1 ∧ plainName (md mid).1.cls = true ∧ ∀ {p : Program} {l : Launch} {e : Env} {R : Room} {s : State} {m : MethodId} {args : Array Value} {below : List Frame} {meth : Method} {c : Code} {H : Heap} {locs : List Loc} {cells slots : Nat} {ls : Array Slot},
      gx_C g (md mid).1.cls (md mid).2.1 (md mid).2.2.1 (md mid).2.2.2 (md mid).1.name p s m args meth c → gx_I g (md mid).2.2.1 s L M H locs cells ls → d + 1 ≤ R.frames → 64 * (d + 1) ≤ R.locals → cells + (M'.1 - M.1) ≤ R.cells → slots + (M'.2.1 - M.2.1) ≤ R.slots →
      W p l e R s m args below meth c H locs cells slots (MQ below (gx_Q g r M') args s (cells + (M'.1 - M.1)) (slots + (M'.2.1 - M.2.1)) (gx_A g)) (F0 m pc ls (st.map (gx_v g))) := by
  induction n with
  | zero => intro d mid pc L st M r M' h; simp [gc_run] at h
  | succ n ih =>
    intro d mid pc L st M r M' h
    rw [gc_run] at h
    cases hp : P mid pc with
    | none => rw [hp] at h; simp at h
    | some e0 =>
      obtain ⟨hpl, hE⟩ := hT mid pc e0 hp
      rw [hp] at h
      obtain f | f | k := e0
      · dsimp only at h
        cases hf : f pc L st M with
        | none => rw [hf] at h; simp at h
        | some y =>
          rw [hf] at h
          obtain ⟨pc', L', st', M1⟩ := y
          obtain ⟨a1, a2, a3⟩ := hE L st M pc' L' st' M1 hf
          obtain ⟨b1, b2, -, b3⟩ := ih d mid pc' L' st' M1 r M' h
          refine ⟨Nat.le_trans a1 b1, Nat.le_trans a2 b2, hpl, @fun p l e R s m args below meth c H locs cells slots ls hC hI hfr hlo hce hsl => ?_⟩
          have e1 : cells + (M1.1 - M.1) + (M'.1 - M1.1) = cells + (M'.1 - M.1) := by omega
          have e2 : slots + (M1.2.1 - M.2.1) + (M'.2.1 - M1.2.1) = slots + (M'.2.1 - M.2.1) := by omega
          refine a3 hC hI (by omega) (by omega) (by omega) (by omega) (fun H1 locs1 ls1 hI1 => ?_)
          have w := b3 (l := l) (e := e) (R := R) (below := below) (slots := slots + (M1.2.1 - M.2.1)) hC hI1 hfr hlo (by omega) (by omega)
          rw [e1, e2] at w
          exact w
      · cases d with
        | zero => simp at h
        | succ d' =>
          dsimp only at h
          cases hg : f st M with
          | none => rw [hg] at h; simp at h
          | some y =>
            rw [hg] at h
            obtain ⟨m2, as, rest⟩ := y
            dsimp only at h
            split at h
            case isFalse => cases h
            rename_i hlen
            cases hr : gc_run P (fun k => (md k).2.2.1) n d' m2 0 (gc_ini as (md m2).2.2.1) [] M with
            | none => rw [hr] at h; simp at h
            | some z =>
              rw [hr] at h
              obtain ⟨r2, M2⟩ := z
              dsimp only at h
              obtain ⟨a1, a2, apl, a3⟩ := ih d' m2 0 _ [] M r2 M2 hr
              obtain ⟨b1, b2, -, b3⟩ := ih (d' + 1) mid (pc + 3) L (r2.toList ++ rest) M2 r M' h
              obtain ⟨c1, c2⟩ := hE st M m2 as rest hg
              refine ⟨Nat.le_trans a1 b1, Nat.le_trans a2 b2, hpl, @fun p l e R s m args below meth c H locs cells slots ls hC hI hfr hlo hce hsl => ?_⟩
              have hMet : gx_M l g (md m2) d' (M2.1 - M.1) (M2.2.1 - M.2.1) as M r2 M2 := by
                refine Met.ofW (cc := (md m2).2.1) (maxL := (md m2).2.2.1) (ret := (md m2).2.2.2) apl rfl ?_
                intro p e s m args below meth c s₁ B hml hP
                obtain ⟨rfl, hP1, hP2, hG⟩ := hP
                have hts := atoms_spec (ws := Cond.code (md m2).1 (md m2).2.1 (md m2).2.2.1 (md m2).2.2.2 :: gx_WS) B.pre
                have hC2 : gx_C g (md m2).1.cls (md m2).2.1 (md m2).2.2.1 (md m2).2.2.2 (md m2).1.name p s m (as.map (gx_v g)).toArray meth c :=
                  ⟨B.exec, B.bytes, hml, findClass_of_methodNamed B.named, fun w hw => hts w (List.mem_cons_of_mem _ hw), B.returns, B.notSynchronized, (name_of_methodNamed B.named B.method).1, hG, by rw [hP2]; exact Nat.le_add_right _ _⟩
                rw [lg_entry_eq]
                have w := a3 (l := l) (e := e) (R := gx_rm d' (M2.1 - M.1) (M2.2.1 - M.2.1)) (below := below) (slots := 0) hC2 ⟨hP1, hP2, rfl, gx_entry g hlen, va_S.rf⟩ (Nat.le_refl _) (Nat.le_refl _) (by rw [Nat.zero_add]; exact Nat.le_refl _) (by rw [Nat.zero_add]; exact Nat.le_refl _)
                rw [Nat.zero_add, Nat.zero_add] at w
                exact w
              have hR := c2 hC hI hMet (by omega) (by omega) (by omega : cells + (M2.1 - M.1) ≤ R.cells) (by omega : slots + (M2.2.1 - M.2.1) ≤ R.slots) (e := e) (below := below)
              intro T hTh X
              obtain ⟨v, st₀, t, T', L2, h0, X', hL, e1, e2, hQ, hgo⟩ := hR T hTh X
              obtain ⟨q1, q2, q3, q4⟩ := hQ
              cases q1
              have hs1 := hI.2.1
              have hs2 := hI.2.2.1
              have hs3 := hC.2.2.2.2.2.2.2.2.2
              have hI2 : gx_I g (md mid).2.2.1 s L M2 T'.heap (locs ++ L2) (cells + (M2.1 - M.1)) ls := by
                refine ⟨by rw [e1]; exact q2, by rw [e1]; exact q3, by rw [e1, q3]; omega, hI.2.2.2.1, by rw [e1, q3]; omega, fun q h1 h2 => ?_, fun q hq => ?_⟩
                · rw [e1, q4 q (Nat.lt_of_not_le h2), h0]
                  exact hI.2.2.2.2.2.1 q h1 h2
                · rcases List.mem_append.mp hq with h | h
                  · exact hI.2.2.2.2.2.2 q h
                  · exact hL q h
              have w := b3 (l := l) (e := e) (R := R) (below := below) (slots := slots + (M2.2.1 - M.2.1)) hC hI2 hfr hlo (by omega) (by omega)
              have e3 : cells + (M2.1 - M.1) + (M'.1 - M2.1) = cells + (M'.1 - M.1) := by omega
              have e4 : slots + (M2.2.1 - M.2.1) + (M'.2.1 - M2.2.1) = slots + (M'.2.1 - M.2.1) := by omega
              rw [e3, e4] at w
              have e5 : (r2.toList ++ rest).map (gx_v g) = (r2.map (gx_v g)).toList ++ rest.map (gx_v g) := by
                cases r2 <;> simp
              rw [e5] at w
              obtain ⟨t2, a, b⟩ := w T' rfl X'
              exact ⟨t2, hgo t2 a, b⟩
      · dsimp only at h
        cases hk : k st with
        | none => rw [hk] at h; simp at h
        | some r1 =>
          rw [hk] at h
          cases h
          refine ⟨Nat.le_refl _, Nat.le_refl _, hpl, @fun p l e R s m args below meth c H locs cells slots ls hC hI hfr hlo hce hsl => ?_⟩
          have w := hE st r hk (l := l) (e := e) (R := R) (below := below) (slots := slots) hC hI
          rw [Nat.sub_self, Nat.sub_self, Nat.add_zero, Nat.add_zero]
          exact w
