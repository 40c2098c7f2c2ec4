/-! what both memories keep between calls -/
/-- rows of three, of two, told by hand; their object is cell b -/
def cSx (b : Nat) (s : gm_S) (l : List gTr) : Prop := s.1 b 3 = nI l.length ∧ l.length ≤ 5 ∧ ∀ i r, l[i]? = some r → s.1 (b + 1) i = nI r.1 ∧ s.1 (b + 2) i = nI r.2.1 ∧ s.1 (b + 3) i = nI r.2.2
def cPx (b : Nat) (s : gm_S) (l : List (Nat × Nat)) : Prop := s.1 b 3 = nI l.length ∧ l.length ≤ 10 ∧ ∀ i r, l[i]? = some r → s.1 (b + 1) i = nI r.1 ∧ (r.1 ≠ 0 → s.1 (b + 2) i = nI r.2)
def cBx (b : Nat) (s : gm_S) (l : List (Nat × Nat)) : Prop := s.1 b 3 = nI l.length ∧ l.length ≤ 8 ∧ ∀ i r, l[i]? = some r → s.1 (b + 1) i = nI r.1 ∧ s.1 (b + 2) i = nI r.2
/-- the same in the other, by cells: the count at (137, k), the columns from a on -/
def mSx (k a : Nat) (s : gm_S) (l : List gTr) : Prop := s.1 137 k = nI l.length ∧ l.length ≤ 5 ∧ ∀ i r, l[i]? = some r → s.1 a i = nI r.1 ∧ s.1 (a + 1) i = nI r.2.1 ∧ s.1 (a + 2) i = nI r.2.2
def mPx (k a m : Nat) (s : gm_S) (l : List (Nat × Nat)) : Prop := s.1 137 k = nI l.length ∧ l.length ≤ m ∧ ∀ i r, l[i]? = some r → s.1 a i = nI r.1 ∧ s.1 (a + 1) i = nI r.2
def gBk_ok (n : Nat) (l : List (Nat × Nat)) : Prop := ∀ r, r ∈ l → r.1 < n ∧ r.2 ≤ 99
theorem cSx_cg {b : Nat} {s s' : gm_S} {l : List gTr} (h : cSx b s l) (e : ∀ c j, b ≤ c → c ≤ b + 3 → s'.1 c j = s.1 c j) : cSx b s' l := by
  refine ⟨(e b 3 (by omega) (by omega)).trans h.1, h.2.1, fun i r hr => ?_⟩
  obtain ⟨x, y, z⟩ := h.2.2 i r hr
  exact ⟨(e _ i (by omega) (by omega)).trans x, (e _ i (by omega) (by omega)).trans y, (e _ i (by omega) (by omega)).trans z⟩
theorem cPx_cg {b : Nat} {s s' : gm_S} {l : List (Nat × Nat)} (h : cPx b s l) (e : ∀ c j, b ≤ c → c ≤ b + 3 → s'.1 c j = s.1 c j) : cPx b s' l := by
  refine ⟨(e b 3 (by omega) (by omega)).trans h.1, h.2.1, fun i r hr => ?_⟩
  obtain ⟨x, y⟩ := h.2.2 i r hr
  exact ⟨(e _ i (by omega) (by omega)).trans x, fun q => (e _ i (by omega) (by omega)).trans (y q)⟩
theorem cBx_cg {b : Nat} {s s' : gm_S} {l : List (Nat × Nat)} (h : cBx b s l) (e : ∀ c j, b ≤ c → c ≤ b + 3 → s'.1 c j = s.1 c j) : cBx b s' l := by
  refine ⟨(e b 3 (by omega) (by omega)).trans h.1, h.2.1, fun i r hr => ?_⟩
  obtain ⟨x, y⟩ := h.2.2 i r hr
  exact ⟨(e _ i (by omega) (by omega)).trans x, (e _ i (by omega) (by omega)).trans y⟩
theorem mSx_cg {k a : Nat} {s s' : gm_S} {l : List gTr} (h : mSx k a s l) (e1 : s'.1 137 k = s.1 137 k) (e : ∀ c j, a ≤ c → c ≤ a + 2 → s'.1 c j = s.1 c j) : mSx k a s' l := by
  refine ⟨e1.trans h.1, h.2.1, fun i r hr => ?_⟩
  obtain ⟨x, y, z⟩ := h.2.2 i r hr
  exact ⟨(e _ i (by omega) (by omega)).trans x, (e _ i (by omega) (by omega)).trans y, (e _ i (by omega) (by omega)).trans z⟩
theorem mPx_cg {k a m : Nat} {s s' : gm_S} {l : List (Nat × Nat)} (h : mPx k a m s l) (e1 : s'.1 137 k = s.1 137 k) (e : ∀ c j, a ≤ c → c ≤ a + 1 → s'.1 c j = s.1 c j) : mPx k a m s' l := by
  refine ⟨e1.trans h.1, h.2.1, fun i r hr => ?_⟩
  obtain ⟨x, y⟩ := h.2.2 i r hr
  exact ⟨(e _ i (by omega) (by omega)).trans x, (e _ i (by omega) (by omega)).trans y⟩
theorem cSx_1 {s : gm_S} {l : List gTr} : cSx 1 s l = cSn s l := rfl
theorem cPx_9 {s : gm_S} {l : List (Nat × Nat)} : cPx 9 s l = cPl s l := rfl
theorem mSx_38 {s : gm_S} {l : List gTr} : mSx 38 163 s l = mSn s l := rfl
theorem mPx_42 {s : gm_S} {l : List (Nat × Nat)} : mPx 42 166 10 s l = mPl s l := rfl
/-- the letters of the four words -/
def kLt (i : Nat) : Nat := ([115, 116, 114, 111, 110, 103, 119, 101, 97, 107, 98, 101, 97, 114, 104, 97, 110, 103] : List Nat).getD i 0
def kLe (s : gm_S) : Prop := ∀ i, i < 18 → s.1 156 i = nI (kLt i)
/-- where the steps of each text lie -/
def kSz (s : gm_S) (φ : List (List fC)) : Prop := ∀ k cs, φ[k]? = some cs → ∀ i c, cs[i]? = some c → c.1 ≤ 1 → ∃ a, s.1 152 (10 * k + i) = nI a ∧ a + c.2.2.length ≤ 100 * (k + 1)
/-- the firms that were read -/
def kFi (s : gm_S) (φ : List (List fC)) : Prop := s.1 0 13 = nI φ.length ∧ s.1 137 13 = nI φ.length ∧ φ.length ≤ 6 ∧ (gF_tx s 79 [] ∧ kLe s ∧ kSz s φ) ∧ ∀ k cs, φ[k]? = some cs → fCs cs ∧ gF_tx s (28 + 4 * k) cs ∧ mTx s k cs
/-- which firm holds -/
def kCu (φ : List (List fC)) : Option Nat → List fC → Nat → Prop
  | none, cs, f => cs = [] ∧ f = 79
  | some k, cs, f => φ[k]? = some cs ∧ f = 28 + 4 * k
def gA_all (p : gA) (cs : List fC) : Prop := gA_ok p ∧ gA_k2 p ∧ gA_k3 p ∧ gA_k4 p ∧ fCs cs ∧ p.1.1 ≤ 9999 ∧ (∀ fx, p.2.2 fx = fC_sum fx cs 30) ∧ p.2.1 17 0 = fC_last 2 cs 12 ∧ p.2.1 17 1 = fC_last 3 cs 2
/-- the yard as it is now -/
def kYd (s : gm_S) (φ : List (List fC)) (p : gA) (cu : Option Nat) (cs : List fC) (f : Nat) : Prop := kCu φ cu cs f ∧ gA_all p cs ∧ gR s 83 f (fC_flat cs).length p ∧ mY 9999 s cu cs p
def kLs (s : gm_S) (n : Nat) (l1 : List gTr) (l2 l3 : List (Nat × Nat)) : Prop := (cSx 1 s l1 ∧ mSx 38 163 s l1 ∧ gSn_ok n l1) ∧ (cPx 9 s l2 ∧ mPx 42 166 10 s l2 ∧ gPl_ok n l2) ∧ (cBx 17 s l3 ∧ mPx 43 168 8 s l3 ∧ gBk_ok n l3)
/-- the image of the other -/
def mIR (s : gm_S) (cu : Option Nat) (p : gA) : Prop := (s.1 137 49 = match cu with
    | none => -1
    | some k => nI k) ∧ s.1 137 50 = nI p.1.2.1 ∧ s.1 137 51 = nI p.1.2.2 ∧ s.1 137 52 = nI p.1.1 ∧ (∀ k, k < 4 → s.1 170 k = p.2.1 1 k) ∧ (∀ c, c < p.1.2.1 → s.1 171 c = p.2.1 2 c ∧ s.1 172 c = p.2.1 3 c ∧ s.1 173 c = p.2.1 4 c ∧ ∀ k, k < 4 → s.1 174 (4 * c + k) = p.2.1 (6 + c) k) ∧ ∀ t, t < p.1.2.2 → s.1 175 t = p.2.1 12 t ∧ s.1 176 t = mS (p.2.1 13 t) ∧ s.1 177 t = p.2.1 14 t ∧ s.1 178 t = p.2.1 15 t ∧ s.1 179 t = p.2.1 16 t
def kIL (s : gm_S) (n : Nat) (l1 : List gTr) (l2 l3 : List (Nat × Nat)) : Prop := (cSx 5 s l1 ∧ mSx 53 180 s l1 ∧ gSn_ok n l1) ∧ (cPx 13 s l2 ∧ mPx 54 183 10 s l2 ∧ gPl_ok n l2) ∧ (cBx 21 s l3 ∧ mPx 55 185 8 s l3 ∧ gBk_ok n l3)
def kIm (s : gm_S) (φ : List (List fC)) : Prop := (s.1 0 9 = 0 ∧ s.1 137 48 = 0) ∨ (s.1 0 9 = 1 ∧ s.1 137 48 = 1 ∧ ∃ p cu cs f l1 l2 l3, kCu φ cu cs f ∧ gA_all p cs ∧ gR s 119 f (fC_flat cs).length p ∧ mIR s cu p ∧ kIL s p.1.2.2 l1 l2 l3)
def kTx (s : gm_S) (n : Nat) (b : Nat → Nat) : Prop := s.1 0 11 = nI n ∧ s.1 137 15 = nI n ∧ n ≤ 100 ∧ ∀ i, i < n → b i < 128 ∧ s.1 25 i = nI (b i) ∧ s.1 148 i = nI (b i)
def kAc (s : gm_S) (o : Option Nat) (tr : List Int32) : Prop := (match o with
    | none => s.2.1 0 15 = none ∧ tr = []
    | some k => s.2.1 0 15 = some (65 + 2 * k) ∧ k < 7 ∧ s.1 (65 + 2 * k) 2 = nI tr.length ∧ ∀ i x, tr[i]? = some x → s.1 (66 + 2 * k) i = x) ∧ s.1 137 73 = nI tr.length ∧ tr.length ≤ 20 ∧ ∀ i x, tr[i]? = some x → s.1 187 i = x
def kT1 (s : gm_S) (t : Nat) : Prop := ∃ (so : Int32) (n : Nat), s.1 (52 + 2 * t) 0 = so ∧ s.1 188 t = so ∧ s.1 (52 + 2 * t) 1 = nI n ∧ s.1 189 t = nI n ∧ n ≤ 60 ∧ (so = -1 ∧ n = 0 ∨ ∃ k, k < 5 ∧ so = nI k) ∧ ∀ i, i < 60 → s.2.2 (53 + 2 * t) i = s.2.2 190 (60 * t + i)
def kTp (s : gm_S) : Prop := ∀ t, t < 6 → kT1 s t
/-- yard, lists, image, firms -/
def kG1 (s : gm_S) : Prop := ∃ φ p cu cs f l1 l2 l3, kFi s φ ∧ kYd s φ p cu cs f ∧ kLs s p.1.2.2 l1 l2 l3 ∧ kIm s φ
def kG2 (s : gm_S) : Prop := ∃ n b, kTx s n b
def kG3 (s : gm_S) : Prop := ∃ o tr, kAc s o tr
def gInv (s : gm_S) : Prop := kG1 s ∧ kG2 s ∧ kG3 s ∧ kTp s
/-! each told by its cells -/
theorem gF_tx_cg {s s' : gm_S} {f : Nat} {cs : List fC} (h : gF_tx s f cs) (e : ∀ b j, f ≤ b → b ≤ f + 3 → s'.1 b j = s.1 b j) : gF_tx s' f cs := by
  obtain ⟨⟨h1, h2, h3⟩, h4, h5⟩ := h
  refine ⟨⟨(e f 5 (by omega) (by omega)).trans h1, h2, fun i k hk => ?_⟩, (e f 0 (by omega) (by omega)).trans h4, (e f 1 (by omega) (by omega)).trans h5⟩
  obtain ⟨a, b, c⟩ := h3 i k hk
  exact ⟨(e _ i (by omega) (by omega)).trans a, (e _ i (by omega) (by omega)).trans b, (e _ i (by omega) (by omega)).trans c⟩
theorem mTx_cg {s s' : gm_S} {f : Nat} {cs : List fC} (h : mTx s f cs) (e : ∀ b j, 149 ≤ b → b ≤ 154 → s'.1 b j = s.1 b j) : mTx s' f cs := by
  obtain ⟨h4, h5⟩ := h
  refine ⟨(e _ _ (by decide) (by decide)).trans h4, fun i c hc => ?_⟩
  obtain ⟨a, b, g⟩ := h5 i c hc
  refine ⟨(e _ _ (by decide) (by decide)).trans a, (e _ _ (by decide) (by decide)).trans b, fun hc1 => ?_⟩
  obtain ⟨k, k1, k2, k3, k4⟩ := g hc1
  exact ⟨k, (e _ _ (by decide) (by decide)).trans k1, (e _ _ (by decide) (by decide)).trans k2, k3, fun i k hk => (e _ _ (by decide) (by decide)).trans (k4 i k hk)⟩
theorem kFi_cg {s s' : gm_S} {φ : List (List fC)} (h : kFi s φ) (e : ∀ b j, (b = 0 ∧ j = 13) ∨ (28 ≤ b ∧ b ≤ 51) ∨ (79 ≤ b ∧ b ≤ 82) ∨ (b = 137 ∧ j = 13) ∨ (149 ≤ b ∧ b ≤ 154) ∨ b = 156 → s'.1 b j = s.1 b j) : kFi s' φ := by
  obtain ⟨h1, h2, h3, ⟨h4, h4', h4''⟩, h5⟩ := h
  refine ⟨(e 0 13 (by omega)).trans h1, (e 137 13 (by omega)).trans h2, h3, ⟨gF_tx_cg h4 (fun b j q1 q2 => e b j (by omega)), fun i hi => (e 156 i (by omega)).trans (h4' i hi), fun k cs hk i c hc hc1 => ?_⟩, fun k cs hk => ?_⟩
  · obtain ⟨a, ha, hb⟩ := h4'' k cs hk i c hc hc1
    exact ⟨a, (e 152 _ (by omega)).trans ha, hb⟩
  obtain ⟨a, b, c⟩ := h5 k cs hk
  have hk6 := (List.getElem?_eq_some_iff.mp hk).1
  exact ⟨a, gF_tx_cg b (fun b j q1 q2 => e b j (by omega)), mTx_cg c (fun b j q1 q2 => e b j (by omega))⟩
theorem kCu_f {φ : List (List fC)} {cu : Option Nat} {cs : List fC} {f : Nat} (h : kCu φ cu cs f) (h6 : φ.length ≤ 6) : f = 79 ∨ (28 ≤ f ∧ f ≤ 48) := by
  cases cu with
  | none => exact Or.inl h.2
  | some k =>
    have hk6 := (List.getElem?_eq_some_iff.mp h.1).1
    have := h.2
    omega
theorem mY_cg {K : Int32} {s s' : gm_S} {cu : Option Nat} {cs : List fC} {p : gA} (h : mY K s cu cs p) (hk : gA_ok p) (e : ∀ b j, (b = 137 ∧ (j ≤ 2 ∨ j = 14 ∨ j = 31)) ∨ (138 ≤ b ∧ b ≤ 147) ∨ (149 ≤ b ∧ b ≤ 154) → s'.1 b j = s.1 b j) : mY K s' cu cs p := by
  obtain ⟨h1, h2, h3, h4, h5⟩ := h
  exact ⟨mR_cg h1 hk (fun j hj => e _ _ (by omega)) (fun b j hb => e _ _ (by omega)) (fun b j q1 q2 _ => e _ _ (by omega)), mFm_fr h2 (fun b j q1 q2 => e _ _ (by omega)) (e _ _ (by omega)), (e 137 31 (by omega)).trans h3, fun c hc => by rw [e 141 c (by omega)]; exact h4 c hc, h5⟩
theorem kYd_cg {s s' : gm_S} {φ : List (List fC)} {p : gA} {cu : Option Nat} {cs : List fC} {f : Nat} (h : kYd s φ p cu cs f) (h6 : φ.length ≤ 6) (e1 : s'.2.1 83 1 = s.2.1 83 1) (e : ∀ b j, (28 ≤ b ∧ b ≤ 51) ∨ (79 ≤ b ∧ b ≤ 99) ∨ (b = 137 ∧ (j ≤ 2 ∨ j = 14 ∨ j = 31)) ∨ (138 ≤ b ∧ b ≤ 147) ∨ (149 ≤ b ∧ b ≤ 154) → s'.1 b j = s.1 b j) : kYd s' φ p cu cs f := by
  obtain ⟨h1, h2, h3, h4⟩ := h
  have hf := kCu_f h1 h6
  exact ⟨h1, h2, gR_cg h3 h2.1.1 e1 (fun b j q => e b j (by omega)), mY_cg h4 h2.1 (fun b j q => e b j (by omega))⟩
theorem kLs_cg {s s' : gm_S} {n : Nat} {l1 : List gTr} {l2 l3 : List (Nat × Nat)} (h : kLs s n l1 l2 l3) (e : ∀ b j, (1 ≤ b ∧ b ≤ 4) ∨ (9 ≤ b ∧ b ≤ 12) ∨ (17 ≤ b ∧ b ≤ 20) ∨ (b = 137 ∧ (j = 38 ∨ j = 42 ∨ j = 43)) ∨ (163 ≤ b ∧ b ≤ 169) → s'.1 b j = s.1 b j) : kLs s' n l1 l2 l3 := by
  obtain ⟨⟨a1, a2, a3⟩, ⟨b1, b2, b3⟩, ⟨c1, c2, c3⟩⟩ := h
  exact ⟨⟨cSx_cg a1 (fun c j _ _ => e c j (by omega)), mSx_cg a2 (e _ _ (by omega)) (fun c j _ _ => e c j (by omega)), a3⟩, ⟨cPx_cg b1 (fun c j _ _ => e c j (by omega)), mPx_cg b2 (e _ _ (by omega)) (fun c j _ _ => e c j (by omega)), b3⟩, ⟨cBx_cg c1 (fun c j _ _ => e c j (by omega)), mPx_cg c2 (e _ _ (by omega)) (fun c j _ _ => e c j (by omega)), c3⟩⟩
theorem kIL_cg {s s' : gm_S} {n : Nat} {l1 : List gTr} {l2 l3 : List (Nat × Nat)} (h : kIL s n l1 l2 l3) (e : ∀ b j, (5 ≤ b ∧ b ≤ 8) ∨ (13 ≤ b ∧ b ≤ 16) ∨ (21 ≤ b ∧ b ≤ 24) ∨ (b = 137 ∧ (53 ≤ j ∧ j ≤ 55)) ∨ (180 ≤ b ∧ b ≤ 186) → s'.1 b j = s.1 b j) : kIL s' n l1 l2 l3 := by
  obtain ⟨⟨a1, a2, a3⟩, ⟨b1, b2, b3⟩, ⟨c1, c2, c3⟩⟩ := h
  exact ⟨⟨cSx_cg a1 (fun c j _ _ => e c j (by omega)), mSx_cg a2 (e _ _ (by omega)) (fun c j _ _ => e c j (by omega)), a3⟩, ⟨cPx_cg b1 (fun c j _ _ => e c j (by omega)), mPx_cg b2 (e _ _ (by omega)) (fun c j _ _ => e c j (by omega)), b3⟩, ⟨cBx_cg c1 (fun c j _ _ => e c j (by omega)), mPx_cg c2 (e _ _ (by omega)) (fun c j _ _ => e c j (by omega)), c3⟩⟩
theorem mIR_cg {s s' : gm_S} {cu : Option Nat} {p : gA} (h : mIR s cu p) (e : ∀ b j, (b = 137 ∧ (49 ≤ j ∧ j ≤ 52)) ∨ (170 ≤ b ∧ b ≤ 179) → s'.1 b j = s.1 b j) : mIR s' cu p := by
  obtain ⟨h0, h1, h2, h3, h4, h5, h6⟩ := h
  refine ⟨(e 137 49 (by omega)).trans h0, (e 137 50 (by omega)).trans h1, (e 137 51 (by omega)).trans h2, (e 137 52 (by omega)).trans h3, fun k hk => (e 170 k (by omega)).trans (h4 k hk), fun c hc => ?_, fun t ht => ?_⟩
  · obtain ⟨a, b, c', d⟩ := h5 c hc
    exact ⟨(e 171 c (by omega)).trans a, (e 172 c (by omega)).trans b, (e 173 c (by omega)).trans c', fun k hk => (e 174 _ (by omega)).trans (d k hk)⟩
  · obtain ⟨a, b, c, d, g⟩ := h6 t ht
    exact ⟨(e 175 t (by omega)).trans a, (e 176 t (by omega)).trans b, (e 177 t (by omega)).trans c, (e 178 t (by omega)).trans d, (e 179 t (by omega)).trans g⟩
theorem kIm_cg {s s' : gm_S} {φ : List (List fC)} (h : kIm s φ) (h6 : φ.length ≤ 6) (e1 : s'.2.1 119 1 = s.2.1 119 1) (e : ∀ b j, (b = 0 ∧ j = 9) ∨ (5 ≤ b ∧ b ≤ 8) ∨ (13 ≤ b ∧ b ≤ 16) ∨ (21 ≤ b ∧ b ≤ 24) ∨ (28 ≤ b ∧ b ≤ 51) ∨ (79 ≤ b ∧ b ≤ 82) ∨ (119 ≤ b ∧ b ≤ 135) ∨ (b = 137 ∧ (48 ≤ j ∧ j ≤ 55)) ∨ (170 ≤ b ∧ b ≤ 186) → s'.1 b j = s.1 b j) : kIm s' φ := by
  rcases h with ⟨h1, h2⟩ | ⟨h1, h2, p, cu, cs, f, l1, l2, l3, h3, h4, h5, h7, h8⟩
  · exact Or.inl ⟨(e 0 9 (by omega)).trans h1, (e 137 48 (by omega)).trans h2⟩
  · have hf := kCu_f h3 h6
    exact Or.inr ⟨(e 0 9 (by omega)).trans h1, (e 137 48 (by omega)).trans h2, p, cu, cs, f, l1, l2, l3, h3, h4, gR_cg h5 h4.1.1 e1 (fun b j q => e b j (by omega)), mIR_cg h7 (fun b j q => e b j (by omega)), kIL_cg h8 (fun b j q => e b j (by omega))⟩
theorem kTx_cg {s s' : gm_S} {n : Nat} {b : Nat → Nat} (h : kTx s n b) (e : ∀ b j, (b = 0 ∧ j = 11) ∨ b = 25 ∨ (b = 137 ∧ j = 15) ∨ b = 148 → s'.1 b j = s.1 b j) : kTx s' n b := by
  obtain ⟨h1, h2, h3, h4⟩ := h
  refine ⟨(e 0 11 (by omega)).trans h1, (e 137 15 (by omega)).trans h2, h3, fun i hi => ?_⟩
  obtain ⟨a, b, c⟩ := h4 i hi
  exact ⟨a, (e 25 i (by omega)).trans b, (e 148 i (by omega)).trans c⟩
theorem kAc_cg {s s' : gm_S} {o : Option Nat} {tr : List Int32} (h : kAc s o tr) (e1 : s'.2.1 0 15 = s.2.1 0 15) (e : ∀ b j, (65 ≤ b ∧ b ≤ 78) ∨ (b = 137 ∧ j = 73) ∨ b = 187 → s'.1 b j = s.1 b j) : kAc s' o tr := by
  obtain ⟨h1, h2, h3, h4⟩ := h
  refine ⟨?_, (e 137 73 (by omega)).trans h2, h3, fun i x hx => (e 187 i (by omega)).trans (h4 i x hx)⟩
  cases o with
  | none => exact ⟨e1.trans h1.1, h1.2⟩
  | some k =>
    obtain ⟨a, b, c, d⟩ := h1
    exact ⟨e1.trans a, b, (e _ _ (by omega)).trans c, fun i x hx => (e _ _ (by omega)).trans (d i x hx)⟩
theorem kTp_cg {s s' : gm_S} (h : kTp s) (e1 : ∀ b j, (53 ≤ b ∧ b ≤ 63) ∨ b = 190 → s'.2.2 b j = s.2.2 b j) (e : ∀ b j, (52 ≤ b ∧ b ≤ 63) ∨ b = 188 ∨ b = 189 → s'.1 b j = s.1 b j) : kTp s' := by
  intro t ht
  obtain ⟨so, n, h1, h2, h3, h4, h5, h6, h7⟩ := h t ht
  exact ⟨so, n, (e _ _ (by omega)).trans h1, (e _ _ (by omega)).trans h2, (e _ _ (by omega)).trans h3, (e _ _ (by omega)).trans h4, h5, h6, fun i hi => by rw [e1 _ _ (by omega), e1 _ _ (by omega)]; exact h7 i hi⟩
/-! what only asks leaves all as it is -/
/-- all but the trial and the facts -/
def cU (s s' : gm_S) : Prop := s'.2.2 = s.2.2 ∧ (∀ b k, b ≠ 101 → s'.2.1 b k = s.2.1 b k) ∧ ∀ b j, b < 100 ∨ 118 < b → s'.1 b j = s.1 b j
theorem cU_refl {s : gm_S} : cU s s := ⟨rfl, fun _ _ _ => rfl, fun _ _ _ => rfl⟩
theorem cU_T {s s' : gm_S} (h : cT s s') : cU s s' := ⟨h.1, h.2.1, fun b j q => h.2.2 b j (by omega)⟩
theorem cU_fr {s s' : gm_S} (h : gy_fr 83 s s') : cU s s' := ⟨by rw [h.1], fun b k _ => by rw [h.1], fun b j q => h.2 b j (by omega)⟩
theorem gInv_U {s s' : gm_S} (h : gInv s) (e : cU s s') : gInv s' := by
  obtain ⟨⟨φ, p, cu, cs, f, l1, l2, l3, h1, h2, h3, h4⟩, ⟨n, b, h5⟩, ⟨o, tr, h6⟩, h7⟩ := h
  obtain ⟨e1, e2, e3⟩ := e
  exact ⟨⟨φ, p, cu, cs, f, l1, l2, l3, kFi_cg h1 (fun b j q => e3 b j (by omega)), kYd_cg h2 h1.2.2.1 (e2 _ _ (by omega)) (fun b j q => e3 b j (by omega)), kLs_cg h3 (fun b j q => e3 b j (by omega)), kIm_cg h4 h1.2.2.1 (e2 _ _ (by omega)) (fun b j q => e3 b j (by omega))⟩, ⟨n, b, kTx_cg h5 (fun b j q => e3 b j (by omega))⟩, ⟨o, tr, kAc_cg h6 (e2 _ _ (by omega)) (fun b j q => e3 b j (by omega))⟩, kTp_cg h7 (fun b j q => by rw [e1]) (fun b j q => e3 b j (by omega))⟩
theorem mYY_k {s : gm_S} {φ : List (List fC)} {p : gA} {cu : Option Nat} {cs : List fC} {f : Nat} (h : kYd s φ p cu cs f) : mYY s cu cs p := ⟨h.2.2.2, h.2.1.1, h.2.1.2.1, h.2.1.2.2.2.2.1, h.2.1.2.2.2.2.2.1⟩
/-- asked of the other too -/
theorem gInv_B {s s' : gm_S} {φ : List (List fC)} {p : gA} {cu : Option Nat} {cs : List fC} {f : Nat} {l1 : List gTr} {l2 l3 : List (Nat × Nat)} (h1 : kFi s φ) (h2 : kYd s φ p cu cs f) (h3 : kLs s p.1.2.2 l1 l2 l3) (h4 : kIm s φ) (h5 : kG2 s) (h6 : kG3 s) (h7 : kTp s) (e : mB s s') (hY : mYY s' cu cs p) : gInv s' := by
  obtain ⟨n, b, h5⟩ := h5
  obtain ⟨o, tr, h6⟩ := h6
  obtain ⟨e1, e2⟩ := e
  have e3 : ∀ b j, ¬ mAsk b j → b ≠ 138 → b ≠ 140 → b ≠ 143 → s'.1 b j = s.1 b j := e2
  have hf := kCu_f h2.1 h1.2.2.1
  refine ⟨⟨φ, p, cu, cs, f, l1, l2, l3, kFi_cg h1 (fun b j q => e3 b j (by unfold mAsk; omega) (by omega) (by omega) (by omega)), ⟨h2.1, h2.2.1, gR_cg h2.2.2.1 h2.2.1.1.1 (by rw [e1]) (fun b j q => e3 b j (by unfold mAsk; omega) (by omega) (by omega) (by omega)), hY.1⟩, kLs_cg h3 (fun b j q => e3 b j (by unfold mAsk; omega) (by omega) (by omega) (by omega)), kIm_cg h4 h1.2.2.1 (by rw [e1]) (fun b j q => e3 b j (by unfold mAsk; omega) (by omega) (by omega) (by omega))⟩, ⟨n, b, kTx_cg h5 (fun b j q => e3 b j (by unfold mAsk; omega) (by omega) (by omega) (by omega))⟩, ⟨o, tr, kAc_cg h6 (by rw [e1]) (fun b j q => e3 b j (by unfold mAsk; omega) (by omega) (by omega) (by omega))⟩, kTp_cg h7 (fun b j q => by rw [e1]) (fun b j q => e3 b j (by unfold mAsk; omega) (by omega) (by omega) (by omega))⟩
