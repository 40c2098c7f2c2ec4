/-! what every method's start gives: the words, the classes, the statics, the texts -/
def gx_WS : List Cond := lw_tbl.filter goodWord
theorem gx_mem {w : Cond} (i : Nat) (h : lw_tbl[i]? = some w) (hg : goodWord w = true) : w ∈ gx_WS := List.mem_filter.mpr ⟨List.mem_of_getElem? h, hg⟩
theorem gx_WS_good (ws : List Cond) (h : ∀ w ∈ ws, w ∈ gx_WS) : GoodIn gx_WS ws := fun w hw => ⟨h w hw, good_of_word (List.mem_filter.mp (h w hw)).2⟩
def gx_tys (g : gx_T) : List (ClassId × FieldType) := [(gx_d g 0, .int), (gx_d g 1, .byte), (gx_d g 2, .long), (gx_d g 3, .boolean), (gx_d g 4, .array .int), (gx_d g 5, .object RX0), (gx_d g 6, .object RX1), (gx_d g 7, .object RX8)]
def gx_nw : List Cond := [.methodLinkNest RX11 66 yX1_init RX11, .methodLinkNest RX11 67 yX8_init RX11, .methodLinkNest RX11 70 yX0_init RX11, .methodLinkNest RX11 73 yX3_init RX11, .methodLinkNest RX3 1 yX0_init RX11, .methodLinkNest RX11 76 yX4_init RX11, .methodLinkNest RX4 1 yX0_init RX11, .methodLinkNest RX11 79 yX7_init RX11, .methodLinkNest RX7 1 yX0_init RX11, .methodLinkNest RX11 82 yX2_init RX11, .methodLinkNest RX2 1 yX3_init RX11, .methodLinkNest RX11 85 yX6_init RX11, .methodLinkNest RX6 1 yX4_init RX11, .methodLinkNest RX11 88 yX9_init RX11, .methodLinkNest RX9 1 yX7_init RX11]
def gx_tx : List (Nat × String × Nat) := [(66, "bear", 0), (67, "hang", 1), (72, "strong", 2), (74, "weak", 3), (101, "pkvxgh", 4), (107, "<=>", 5)]
def gx_len : List Nat := [4, 4, 6, 4, 6, 3]
def gx_byt : List (List Int32) := [[98, 101, 97, 114], [104, 97, 110, 103], [115, 116, 114, 111, 110, 103], [119, 101, 97, 107], [112, 107, 118, 120, 103, 104], [60, 61, 62]]
def gx_H (g : gx_T) (s : State) (H : Heap) : Prop :=
  va_Z "java/lang/String" "COMPACT_STRINGS" "Z" (.int 1) (gx_A g) s H ∧
  va_Z "jdk/internal/util/Preconditions" "SIOOBE_FORMATTER" "Ljava/util/function/BiFunction;" (va_rf (gx_s g 30)) (gx_A g) s H ∧
  va_Z "GriefCranes" "KIND_ABOVE" "[I" (va_rf (gx_s g 20)) (gx_A g) s H ∧
  (∃ a, gx_s g 20 = some a ∧ va_T .int a 7 (fun j => .int (([-1, 0, 0, 0, 1, 2, 3] : List Int32).getD j 0)) (gx_A g) s H) ∧
  (∃ adK adV : Nat → Nat, (∀ j, j < 6 → gx_s g j = some (adK j) ∧ gx_s g (10 + j) = some (adV j)) ∧ vk_S 6 gx_len gx_byt adK adV (gx_A g) s H) ∧
  (∃ a, gx_s g 40 = some a ∧ va_T .int a (gx_n g) (fun j => .int (gx_x g j)) (gx_A g) s H)
theorem gx_H.moved {g : gx_T} {u U : State} {H : Heap} (hvm : u.vm.Alike U.vm) (h : gx_H g u H) : gx_H g U H := by
  obtain ⟨h1, h2, h3, ⟨a, h4, h5⟩, ⟨k, v, h6, h7⟩, ⟨b, h8, h9⟩⟩ := h
  exact ⟨h1.moved hvm, h2.moved hvm, h3.moved hvm, ⟨a, h4, h5.moved hvm⟩, ⟨k, v, h6, h7.moved hvm⟩, ⟨b, h8, h9.moved hvm⟩⟩
theorem gx_H.kept {g : gx_T} {U : State} {H H1 : Heap} (h : gx_H g U H) (hq : ∀ a : Nat, a < H.size → ¬ gx_A g a → H1[a]? = H[a]?) : gx_H g U H1 := by
  obtain ⟨h1, h2, h3, ⟨a, h4, h5⟩, ⟨k, v, h6, h7⟩, ⟨b, h8, h9⟩⟩ := h
  exact ⟨h1.kept hq, h2.kept hq, h3.kept hq, ⟨a, h4, h5.kept hq⟩, ⟨k, v, h6, h7.kept hq⟩, ⟨b, h8, h9.kept hq⟩⟩
def gx_cas : List String := [RX3, RX4, RX7, RX2, RX6, RX9]
def gx_O (s : State) : Prop := va_AO RX0 s ∧ va_AO RX1 s ∧ va_AO RX8 s ∧ (Cond.arrayOver (.array .int)).before #[] s = true ∧ ∀ C ∈ gx_cas, va_Nw (.castable C RX0) s
theorem gx_O.moved {u U : State} (hvm : u.vm.Alike U.vm) (h : gx_O u) : gx_O U := ⟨h.1.moved hvm, h.2.1.moved hvm, h.2.2.1.moved hvm, over_moved hvm h.2.2.2.1, fun C hC => va_tabs rfl (rfl : (u.setVm U.vm).vm = U.vm) (by rw [Cond.castable_setVm hvm]; exact h.2.2.2.2 C hC)⟩
def gx_G (g : gx_T) (s : State) : Prop := va_K (gx_D g) vwCl (gx_tys g) s ∧ (∀ w ∈ gx_nw, va_Nw w s) ∧ ((∀ q ∈ gx_tx, ∃ a, gx_s g q.2.2 = some a ∧ vk_R RX1 q.1 q.2.1 a s) ∧ gx_O s) ∧ gx_H g s s.heap
theorem gx_nw_is : ∀ w ∈ gx_nw, ∃ (a : String) (i : Nat) (x : MethodName) (h : String), w = .methodLinkNest a i x h := by
  intro w hw
  simp only [gx_nw, List.mem_cons, List.not_mem_nil, or_false] at hw
  rcases hw with h | h | h | h | h | h | h | h | h | h | h | h | h | h | h <;> exact ⟨_, _, _, _, h⟩
theorem gx_G.warm {g : gx_T} {s U : State} (h : gx_G g s) (hW : s.WarmedH U.vm) (hq : ∀ a : Nat, a < s.heap.size → ¬ gx_A g a → U.heap[a]? = s.heap[a]?) : gx_G g U := by
  obtain ⟨h1, h2, h3, h4⟩ := h
  refine ⟨va_K.moved hW.alike h1, fun w hw => ?_, ⟨fun q hq => ?_, h3.2.moved hW.alike⟩, (h4.moved hW.alike).kept hq⟩
  · obtain ⟨a, i, x, y, rfl⟩ := gx_nw_is w hw
    exact va_Nw.warmM hW (h2 _ hw)
  · obtain ⟨a, e1, e2⟩ := h3.1 q hq
    exact ⟨a, e1, e2.warm hW⟩
theorem gx_G.blind {g : gx_T} {U : State} {f : JFrame} {mk : MethodId} {a : Array Value} (h : gx_G g U) : gx_G g (U.calling f mk a) := by
  obtain ⟨h1, h2, h3, h4⟩ := h
  refine ⟨va_K.moved (Vm.Alike.refl U.vm) h1, fun w hw => ?_, ⟨fun q hq => ?_, h3.2.moved (U := U.calling f mk a) (Vm.Alike.refl U.vm)⟩, h4.moved (U := U.calling f mk a) (Vm.Alike.refl U.vm)⟩
  · obtain ⟨a, i, x, y, rfl⟩ := gx_nw_is w hw
    exact va_Nw.same rfl rfl (h2 _ hw)
  · obtain ⟨a, e1, e2⟩ := h3.1 q hq
    exact ⟨a, e1, e2.same rfl⟩
/-- inside a method -/
def gx_C (g : gx_T) (own : String) (cc : ByteArray) (nL : Nat) (rt : Option FieldType) (nm : String) (p : Program) (s : State) (m : MethodId) (args : Array Value) (meth : Method) (c : Code) : Prop :=
  p.tables.exec = Jvm.exec ∧ c.code = cc ∧ c.maxLocals = nL ∧ s.vm.findClass own = some m.cls ∧ (∀ w ∈ gx_WS, w.before args s = true) ∧ meth.sig.returnType = rt ∧ meth.locks = false ∧ meth.name = nm ∧ gx_G g s ∧ gx_b g ≤ s.heap.size
/-- where the walk stands -/
def gx_I (g : gx_T) (nL : Nat) (s : State) (L : gc_L) (M : gc_M) (H : Heap) (locs : List Loc) (cells : Nat) (ls : Array Slot) : Prop :=
  va_P (gx_D g) vwCl (gx_w g M) H ∧ H.size = gx_b g + M.1 ∧ H.size = s.heap.size + cells ∧ gx_Lr g L ls nL ∧ va_S (gx_A g) s.heap H locs
/-- an instruction that isn't a call -/
def gx_N (g : gx_T) (own : String) (cc : ByteArray) (nL : Nat) (rt : Option FieldType) (nm : String) (pc : Nat) (f : gc_F) : Prop :=
  ∀ (L : gc_L) (st : List Value) (M : gc_M) (pc' : Nat) (L' : gc_L) (st' : List Value) (M1 : gc_M), f pc L st M = some (pc', L', st', M1) → M.1 ≤ M1.1 ∧ M.2.1 ≤ M1.2.1 ∧
    ∀ {p : Program} {l : Launch} {e : Env} {R : Room} {s : State} {m : MethodId} {args : Array Value} {below : List Frame} {meth : Method} {c : Code} {H : Heap} {locs : List Loc} {cells slots : Nat} {Q : State → Prop} {ls : Array Slot},
      gx_C g own cc nL rt nm p s m args meth c → gx_I g nL s L M H locs cells ls → 1 ≤ R.frames → 64 ≤ R.locals → cells + (M1.1 - M.1) ≤ R.cells → slots + (M1.2.1 - M.2.1) ≤ R.slots →
      (∀ (H1 : Heap) (locs1 : List Loc) (ls1 : Array Slot), gx_I g nL s L' M1 H1 locs1 (cells + (M1.1 - M.1)) ls1 → W p l e R s m args below meth c H1 locs1 (cells + (M1.1 - M.1)) (slots + (M1.2.1 - M.2.1)) Q (F0 m pc' ls1 (st'.map (gx_v g)))) →
      W p l e R s m args below meth c H locs cells slots Q (F0 m pc ls (st.map (gx_v g)))
/-- one that only works on the stack -/
theorem gx_easy {g : gx_T} {own : String} {cc : ByteArray} {nL : Nat} {rt : Option FieldType} {nm : String} {pc : Nat} {f : gc_F}
    (h : ∀ (L : gc_L) (st : List Value) (M : gc_M) (x : gc_S), f pc L st M = some x → x.2.1 = L ∧ x.2.2.2 = M ∧
      ∀ {p : Program} {l : Launch} {e : Env} {R : Room} {s : State} {m : MethodId} {args : Array Value} {below : List Frame} {meth : Method} {c : Code} {H : Heap} {locs : List Loc} {cells slots : Nat} {Q : State → Prop} {ls : Array Slot},
        gx_C g own cc nL rt nm p s m args meth c → gx_I g nL s L M H locs cells ls → 1 ≤ R.frames → 64 ≤ R.locals → cells ≤ R.cells → slots ≤ R.slots →
        W p l e R s m args below meth c H locs cells slots Q (F0 m x.1 ls (x.2.2.1.map (gx_v g))) → W p l e R s m args below meth c H locs cells slots Q (F0 m pc ls (st.map (gx_v g)))) : gx_N g own cc nL rt nm pc f := by
  intro L st M pc' L' st' M1 hf
  obtain ⟨h1, h2, h3⟩ := h L st M _ hf
  dsimp only at h1 h2
  subst h1
  subst h2
  refine ⟨Nat.le_refl _, Nat.le_refl _, fun hC hI hfr hlo hce hsl k => ?_⟩
  rw [Nat.sub_self, Nat.add_zero] at hce hsl k
  rw [Nat.sub_self, Nat.add_zero] at k
  exact h3 hC hI hfr hlo hce hsl (k _ _ _ hI)
/-- one that works on the stack and the locals -/
theorem gx_loc {g : gx_T} {own : String} {cc : ByteArray} {nL : Nat} {rt : Option FieldType} {nm : String} {pc : Nat} {f : gc_F}
    (h : ∀ (L : gc_L) (st : List Value) (M : gc_M) (x : gc_S), f pc L st M = some x → x.2.2.2 = M ∧
      ∀ {p : Program} {l : Launch} {e : Env} {R : Room} {s : State} {m : MethodId} {args : Array Value} {below : List Frame} {meth : Method} {c : Code} {H : Heap} {locs : List Loc} {cells slots : Nat} {Q : State → Prop} {ls : Array Slot},
        gx_C g own cc nL rt nm p s m args meth c → gx_Lr g L ls nL →
        (∀ ls1, gx_Lr g x.2.1 ls1 nL → W p l e R s m args below meth c H locs cells slots Q (F0 m x.1 ls1 (x.2.2.1.map (gx_v g)))) → W p l e R s m args below meth c H locs cells slots Q (F0 m pc ls (st.map (gx_v g)))) : gx_N g own cc nL rt nm pc f := by
  intro L st M pc' L' st' M1 hf
  obtain ⟨h2, h3⟩ := h L st M _ hf
  dsimp only at h2 h3
  subst h2
  refine ⟨Nat.le_refl _, Nat.le_refl _, fun hC hI hfr hlo hce hsl k => ?_⟩
  rw [Nat.sub_self, Nat.add_zero] at k
  rw [Nat.sub_self, Nat.add_zero] at k
  exact h3 hC hI.2.2.2.1 (fun ls1 hL => k _ _ _ ⟨hI.1, hI.2.1, hI.2.2.1, hL, hI.2.2.2.2⟩)
/-- the heap's size is bounded by the cells made -/
theorem gx_sz {p : Program} {l : Launch} {e : Env} {R : Room} {s : State} {m : MethodId} {args : Array Value} {below : List Frame} {meth : Method} {c : Code} {H : Heap} {locs : List Loc} {cells slots : Nat} {Q : State → Prop} {f : JFrame}
    (k : H.size ≤ s.heap.size + cells → W p l e R s m args below meth c H locs cells slots Q f) : W p l e R s m args below meth c H locs cells slots Q f := by
  intro T hT X
  refine k ?_ T hT X
  rw [← hT]
  exact X.same.2.2.1
