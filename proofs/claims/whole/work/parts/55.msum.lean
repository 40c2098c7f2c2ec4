/-! the reference: its firm, its sum, its power -/
/-- text f of the reference is these clauses -/
def mTx (s : gm_S) (f : Nat) (cs : List fC) : Prop := s.1 149 f = nI cs.length ∧ ∀ i c, cs[i]? = some c → s.1 150 (10 * f + i) = nI c.1 ∧ s.1 151 (10 * f + i) = nI c.2.1 ∧ (c.1 ≤ 1 → mTk s (10 * f + i) c.2.2)
/-- the text that holds in the reference -/
def mFm (s : gm_S) : Option Nat → List fC → Prop
  | none, cs => s.1 137 14 = -1 ∧ cs = []
  | some f, cs => s.1 137 14 = nI f ∧ f < 6 ∧ cs.length ≤ 10 ∧ mTx s f cs
def mO (o : Option Nat) (cs : List fC) : Option (Nat × Nat) := match o with
  | none => none
  | some f => some (f, cs.length)
theorem mFm_the {s : gm_S} {o : Option Nat} {cs : List fC} (h : mFm s o cs) : mThe s (mO o cs) := by
  cases o with
  | none => exact h.1
  | some f => exact ⟨h.1, h.2.1, h.2.2.2.1, h.2.2.1⟩
theorem mFm_cl {s : gm_S} {o : Option Nat} {cs : List fC} (h : mFm s o cs) : mEn (mO o cs) = mBe (mO o cs) + cs.length ∧ ∀ i c, cs[i]? = some c → s.1 150 (mBe (mO o cs) + i) = nI c.1 ∧ s.1 151 (mBe (mO o cs) + i) = nI c.2.1 ∧ (c.1 ≤ 1 → mTk s (mBe (mO o cs) + i) c.2.2) := by
  cases o with
  | none =>
    obtain ⟨-, e⟩ := h
    subst e
    exact ⟨rfl, fun i c hc => by simp at hc⟩
  | some f => exact ⟨rfl, h.2.2.2.2⟩
theorem mLast_eq {s : gm_S} {cs : List fC} {b x : Nat} (hx : x < 4) (h : ∀ i c, cs[i]? = some c → s.1 150 (b + i) = nI c.1 ∧ s.1 151 (b + i) = nI c.2.1 ∧ (c.1 ≤ 1 → mTk s (b + i) c.2.2)) (h3 : ∀ c, c ∈ cs → fC_ok c) : ∀ (n i : Nat) (v : Int32), i + n = cs.length → mLast s (nI x) n (b + i) v = fC_last x (cs.drop i) v
  | 0, i, v, e => by
    rw [List.drop_of_length_le (by omega)]
    rfl
  | n + 1, i, v, e => by
    have hi : i < cs.length := by omega
    have hg : cs[i]? = some cs[i] := List.getElem?_eq_getElem hi
    obtain ⟨h1, h2, -⟩ := h i _ hg
    have hok := (h3 _ (List.getElem_mem hi)).1
    rw [List.drop_eq_getElem_cons hi, mLast, h1, h2, Nat.add_assoc, mLast_eq hx h h3 n (i + 1) _ (by omega)]
    show fC_last x (cs.drop (i + 1)) _ = fC_last x (cs.drop (i + 1)) (if cs[i].1 = x then nI cs[i].2.1 else v)
    by_cases hq : cs[i].1 = x
    · rw [if_pos hq, if_pos (by rw [hq])]
    · rw [if_neg hq, if_neg (fun e => hq ((nI_eq (by omega) (by omega)).mp e))]
theorem mSum_eq {s : gm_S} {cs : List fC} {b : Nat} {hv : Nat → Bool} {fx : Nat → Int32} (h : ∀ i c, cs[i]? = some c → s.1 150 (b + i) = nI c.1 ∧ s.1 151 (b + i) = nI c.2.1 ∧ (c.1 ≤ 1 → mTk s (b + i) c.2.2)) (h3 : ∀ c, c ∈ cs → fC_ok c) (hH : ∀ i c, cs[i]? = some c → hv (b + i) = fV fx c.2.2) : ∀ (n i : Nat) (v : Int32), i + n = cs.length → mSum s hv n (b + i) v = fC_sum fx (cs.drop i) v
  | 0, i, v, e => by
    rw [List.drop_of_length_le (by omega)]
    rfl
  | n + 1, i, v, e => by
    have hi : i < cs.length := by omega
    have hg : cs[i]? = some cs[i] := List.getElem?_eq_getElem hi
    obtain ⟨h1, h2, -⟩ := h i _ hg
    have hok := (h3 _ (List.getElem_mem hi)).1
    have hh := hH i _ hg
    rw [List.drop_eq_getElem_cons hi, mSum, h1, h2, hh, Nat.add_assoc, mSum_eq h h3 hH n (i + 1) _ (by omega)]
    show fC_sum fx _ _ = fC_sum fx _ (fC_add fx cs[i] v)
    congr 1
    unfold fC_add
    by_cases hq : 1 < cs[i].1
    · have q1 : (1 : Int32) < nI cs[i].1 := (nI_ltI (a := 1) (by omega) (by omega)).mpr hq
      rw [if_pos hq, if_pos q1]
    · have q1 : ¬ (1 : Int32) < nI cs[i].1 := fun e => hq ((nI_ltI (a := 1) (by omega) (by omega)).mp e)
      rw [if_neg hq, if_neg q1]
      cases fV fx cs[i].2.2 with
      | false => rfl
      | true =>
        rw [if_pos rfl, if_pos rfl]
        by_cases hz : cs[i].1 = 0
        · rw [if_pos hz, if_pos (by rw [hz]; rfl)]
        · have q2 : ¬ nI cs[i].1 = 0 := fun e => hz ((nI_eq (b := 0) (by omega) (by omega)).mp e)
          rw [if_neg hz, if_neg q2, Int32.sub_eq_add_neg]
theorem mFm_fr {s s' : gm_S} {o : Option Nat} {cs : List fC} (h : mFm s o cs) (e : ∀ b j, 149 ≤ b → b ≤ 154 → s'.1 b j = s.1 b j) (e1 : s'.1 137 14 = s.1 137 14) : mFm s' o cs := by
  cases o with
  | none => exact ⟨e1.trans h.1, h.2⟩
  | some f =>
    obtain ⟨h1, h2, h3, h4, h5⟩ := h
    refine ⟨e1.trans h1, h2, h3, (e _ _ (by decide) (by decide)).trans h4, fun i c hc => ?_⟩
    obtain ⟨a, b, g⟩ := h5 i c hc
    refine ⟨(e _ _ (by decide) (by decide)).trans a, (e _ _ (by decide) (by decide)).trans b, fun hc1 => ?_⟩
    obtain ⟨k, k1, k2, k3, k4⟩ := g hc1
    exact ⟨k, (e _ _ (by decide) (by decide)).trans k1, (e _ _ (by decide) (by decide)).trans k2, k3, fun i k hk => (e _ _ (by decide) (by decide)).trans (k4 i k hk)⟩
section
variable {w : Nat × (Nat → Int32)} {d cr t : Nat} {s0 s : gm_S} {p : gA} {Q : Option Value → gc_M → Prop} {cs : List fC} {o : Option Nat}
theorem m_bear2 (ho : mFm s o cs) (hcs : fCs cs) : gc_X w (d + 2) 142 0 [some (.ref 137)] [] (gm_m s) Q = Q (some (.int (fC_last 2 cs 12))) (gm_m s) := by
  rw [m_bear (mFm_the ho)]
  obtain ⟨e, h⟩ := mFm_cl ho
  have q := mLast_eq (x := 2) (by decide) h hcs.1 cs.length 0 12 (Nat.zero_add _)
  unfold mBear
  rw [e, Nat.add_sub_cancel_left]
  rw [Nat.add_zero, List.drop_zero] at q
  rw [show (2 : Int32) = nI 2 from rfl, q]
theorem m_hang2 (ho : mFm s o cs) (hcs : fCs cs) : gc_X w (d + 2) 143 0 [some (.ref 137)] [] (gm_m s) Q = Q (some (.int (fC_last 3 cs 2))) (gm_m s) := by
  rw [m_hangs (mFm_the ho)]
  obtain ⟨e, h⟩ := mFm_cl ho
  have q := mLast_eq (x := 3) (by decide) h hcs.1 cs.length 0 2 (Nat.zero_add _)
  unfold mHang
  rw [e, Nat.add_sub_cancel_left]
  rw [Nat.add_zero, List.drop_zero] at q
  rw [show (3 : Int32) = nI 3 from rfl, q]
/-- the sum in the reference -/
theorem m_sum (hR : mR s p) (hk : gA_ok p) (ho : mFm s o cs) (hcs : fCs cs) (hc : cr < p.1.2.1) (ht : t < p.1.2.2) (hq : ∀ s', mFr s s' → Q (some (.int (fC_sum (gA_fx p cr t) cs 30))) (gm_m s')) : gc_X w (d + 2) 146 0 [some (.ref 137), some (.int (nI cr)), some (.int (nI t)), none, none] [] (gm_m s) Q := by
  have hb := fun (Q : Option Value → gc_M → Prop) => m_begin (w := w) (d := d + 1) (Q := Q) (mFm_the ho)
  obtain ⟨e, h⟩ := mFm_cl ho
  have he := (mEn_le (mFm_the ho)).2
  obtain ⟨hv, hH⟩ : ∃ hv : Nat → Bool, ∀ i c, cs[i]? = some c → hv (mBe (mO o cs) + i) = fV (gA_fx p cr t) c.2.2 := by
    refine ⟨fun j => match cs[j - mBe (mO o cs)]? with
      | some c => fV (gA_fx p cr t) c.2.2
      | none => false, fun i c hc => ?_⟩
    dsimp only
    rw [Nat.add_sub_cancel_left, hc]
  have q := mSum_eq (hv := hv) (fx := gA_fx p cr t) h hcs.1 hH cs.length 0 30 (Nat.zero_add _)
  rw [Nat.add_zero, List.drop_zero] at q
  simp only [E_X12_sum_0, E_X12_sum_2, E_X12_sum_3, E_X12_sum_4, E_X12_sum_7, rc_137, hb, List.map_nil, List.map_cons, List.sum_cons, List.sum_nil, gcat_i, gcat_r, gcat_l, Nat.reduceAdd, Nat.reduceLeDiff, Nat.zero_le, Option.toList, List.cons_append, List.nil_append, gnk_i, gnk_r, gnk_n, gi_1, Nat.reduceLT, if_true, if_false]
  refine m_sum_loop (mFm_the ho) (hv := hv) (fun c s1 Q' hc0 hc1 hf hw hq' => ?_) cs.length (mBe (mO o cs)) 30 s (Nat.le_refl _) (by rw [e]) mFr_refl (fun s' hf => ?_)
  · obtain ⟨i, hi⟩ : ∃ i, c = mBe (mO o cs) + i := ⟨c - mBe (mO o cs), by omega⟩
    subst hi
    have hil : i < cs.length := by omega
    have hg : cs[i]? = some cs[i] := List.getElem?_eq_getElem hil
    obtain ⟨h1, h2, h3⟩ := h i _ hg
    have hok := hcs.1 _ (List.getElem_mem hil)
    have h1' : cs[i].1 ≤ 1 := by
      rw [h1] at hw
      have : ¬ 1 < cs[i].1 := fun e => hw ((nI_ltI (a := 1) (by omega) (by have := hok.1; omega)).mpr e)
      omega
    refine m_holds hR hk hc ht (by omega) (h3 h1') (hok.2.2 h1') hf (fun s2 hf2 => ?_)
    rw [← hH i _ hg]
    exact hq' s2 hf2
  · rw [q]
    exact hq s' hf
/-- power in the reference -/
theorem m_power (hR : mR s p) (hk : gA_ok p) (ho : mFm s o cs) (hcs : fCs cs) (hp : ∀ fx, p.2.2 fx = fC_sum fx cs 30) (hc : cr < p.1.2.1) (ht : t < p.1.2.2) (hL : (if s.1 141 cr < 9 then s.1 141 cr else 9) = (if p.2.1 4 cr < 9 then p.2.1 4 cr else 9)) (hq : ∀ s', mFr s s' → Q (some (.int (gA_pow p cr t))) (gm_m s')) : gc_X w (d + 3) 148 0 [some (.ref 137), some (.int (nI cr)), some (.int (nI t)), none, none] [] (gm_m s) Q := by
  obtain ⟨k, hk7, ek⟩ := hk.2.2.2 cr hc
  simp only [E_X12_power_0, E_X12_power_1, E_X12_power_2, E_X12_power_3, rc_137, List.map_nil, List.map_cons, List.sum_cons, List.sum_nil, gcat_i, gcat_r, gcat_l, Nat.reduceAdd, Nat.reduceLeDiff, Nat.zero_le, Option.toList, List.cons_append, List.nil_append, gnk_i, gnk_r, gnk_n, gi_1, Nat.reduceLT, if_true, if_false]
  refine m_sum hR hk ho hcs hc ht (fun s' hf => ?_)
  simp only [List.map_nil, List.map_cons, List.sum_cons, List.sum_nil, gcat_i, gcat_r, gcat_l, Nat.reduceAdd, Nat.reduceLeDiff, Nat.zero_le, Option.toList, List.cons_append, List.nil_append]
  have w1 := hf.2 141 cr (by decide)
  rw [m_power2 (d := d + 2) (mR_fr hR hf) hk hc ht hk7 ek (by rw [w1]; exact hL)]
  have e1 : (p.2.1 2 cr).toNatClampNeg = k := by rw [ek, nI_clamp (by omega : k < 2 ^ 31)]
  have e : gA_pow p cr t = gA_kp p k (fC_sum (gA_fx p cr t) cs 30) cr t := by
    unfold gA_pow
    rw [e1, hp]
  rw [← e]
  exact hq s' hf
end
