/-! the law, from its entry to its loop, and its end -/
theorem in_M3_1 : in_M3.1 = in_M2.1 + 1 := by
  unfold in_M3 gc_push
  exact rfl
theorem in_M3_2 : in_M3.2.1 = in_M2.2.1 + 79 := by
  unfold in_M3 gc_push
  exact rfl
theorem in_M1_1 : in_M1.1 = 1 := rfl
theorem in_M1_2 : in_M1.2.1 = 17 := rfl
theorem in_le {g : gx_T} : in_M3.2.1 ≤ in_M4.2.1 := (gx_sound (gx_tab g) 3000 40 109 0 _ [] in_M3 none in_M4 (in_r2 (gx_n g, gx_x g))).2.1
theorem en_c1 : gc_ci 65 0 [.ref 0, .ref 0] in_M1 = some (65, [.ref 0], [.ref 0]) := ef_obj (L := []) rfl in_o1 rfl rfl (by decide)
theorem en_c2 : gc_ci 109 0 [.ref 137, .ref 137] in_M3 = some (109, [.ref 137], [.ref 137]) := ef_obj (L := []) rfl in_o2 rfl rfl (by decide)
set_option maxRecDepth 20000 in
theorem en_p8 {w : Nat × (Nat → Int32)} : gc_P w.1 w.2 217 8 = some (.inl (gc_new 12 in_F)) := pk_L_law_0 w 8 (Nat.le_of_ble_eq_true rfl)
set_option maxHeartbeats 4000000 in
theorem en_walk {g : gx_T} {p : Program} {l : Launch} {e : Env} {s : State} {m : MethodId} {args : Array Value} {below : List Frame} {meth : Method} {c : Code} {Q : State → Prop} {ls : Array Slot} (hC : gx_C g (gc_md 217).1.cls (gc_md 217).2.1 (gc_md 217).2.2.1 (gc_md 217).2.2.2 (gc_md 217).1.name p s m args meth c) (hI : gx_I g (gc_md 217).2.2.1 s [some (.ref 1000040), none, none, none] in_M0 s.heap [] 0 ls)
    (K : ∀ (H : Heap) (locs : List Loc) (cells slots : Nat) (ls : Array Slot), gx_I g (gc_md 217).2.2.1 s [some (.ref 1000040), some (.ref 0), some (.ref 137), some (.int 0)] in_M4 H locs cells ls → cells ≤ 1000 → slots ≤ 100000 → W p l e room_1 s m args below meth c H locs cells slots Q (F0 m 18 ls (([] : List Value).map (gx_v g)))) : W p l e room_1 s m args below meth c s.heap [] 0 0 Q (F0 m 0 ls (([] : List Value).map (gx_v g))) := by
  have hT := gx_tab g
  have r1 : room_1.frames = 2048 := rfl
  have r2 : room_1.cells = 600000 := rfl
  have r3 : room_1.slots = 7302249 := rfl
  have r4 : room_1.locals = 84000 := rfl
  have m0 : in_M0.1 = 0 := rfl
  have n0 : in_M0.2.1 = 0 := rfl
  have m1 := in_M1_1
  have n1 := in_M1_2
  have m2 := in_t2
  have m3 := in_M3_1
  have n3 := in_M3_2
  have m4 := in_t4
  have n4 := in_t5
  have nle := in_le (g := g)
  refine gx_go (P := gc_P (gx_n g) (gx_x g)) (mid := 217) (pc := 0) (M := in_M0) (M1 := in_M1) hT (pk_L_law (gx_n g, gx_x g) 0) in_n1 hC hI (by omega) (by omega) (by omega) (by omega) (fun H1 locs1 ls1 hI1 => ?_)
  refine gx_go (P := gc_P (gx_n g) (gx_x g)) (mid := 217) (pc := 3) (f := gc_dup) (pc' := 4) (L := [some (.ref 1000040), none, none, none]) (L' := [some (.ref 1000040), none, none, none]) (st := [.ref 0]) (st' := [.ref 0, .ref 0]) (M := in_M1) (M1 := in_M1) hT (pk_L_law_0 (gx_n g, gx_x g) 3 (Nat.le_of_ble_eq_true rfl)) rfl hC hI1 (by omega) (by omega) (by omega) (by omega) (fun H2 locs2 ls2 hI2 => ?_)
  refine gx_gc (P := gc_P (gx_n g) (gx_x g)) (mid := 217) (pc := 4) (f := gc_ci 65 0) (L := [some (.ref 1000040), none, none, none]) (st := [.ref 0, .ref 0]) (M := in_M1) (m2 := 65) (n := 2000) (d' := 40) (as := [.ref 0]) (rest := [.ref 0]) (r2 := none) (M2 := in_M2) hT (pk_L_law_0 (gx_n g, gx_x g) 4 (Nat.le_of_ble_eq_true rfl)) en_c1 (Nat.le_of_ble_eq_true rfl) (in_r1 (gx_n g, gx_x g)) hC hI2 (by omega) (by omega) (by omega) (by omega) (fun H3 locs3 hI3 => ?_)
  refine gx_go (P := gc_P (gx_n g) (gx_x g)) (mid := 217) (pc := 7) (f := gc_stA 1 1) (pc' := 8) (L := [some (.ref 1000040), none, none, none]) (L' := [some (.ref 1000040), some (.ref 0), none, none]) (st := [.ref 0]) (st' := []) (M := in_M2) (M1 := in_M2) hT (pk_L_law_0 (gx_n g, gx_x g) 7 (Nat.le_of_ble_eq_true rfl)) rfl hC hI3 (by omega) (by omega) (by omega) (by omega) (fun H4 locs4 ls4 hI4 => ?_)
  refine gx_go (P := gc_P (gx_n g) (gx_x g)) (mid := 217) (pc := 8) (f := gc_new 12 in_F) (pc' := 11) (L := [some (.ref 1000040), some (.ref 0), none, none]) (L' := [some (.ref 1000040), some (.ref 0), none, none]) (st := []) (st' := [.ref 137]) (M := in_M2) (M1 := in_M3) hT (en_p8 (w := (gx_n g, gx_x g))) in_n2 hC hI4 (by omega) (by omega) (by omega) (by omega) (fun H5 locs5 ls5 hI5 => ?_)
  refine gx_go (P := gc_P (gx_n g) (gx_x g)) (mid := 217) (pc := 11) (f := gc_dup) (pc' := 12) (L := [some (.ref 1000040), some (.ref 0), none, none]) (L' := [some (.ref 1000040), some (.ref 0), none, none]) (st := [.ref 137]) (st' := [.ref 137, .ref 137]) (M := in_M3) (M1 := in_M3) hT (pk_L_law_0 (gx_n g, gx_x g) 11 (Nat.le_of_ble_eq_true rfl)) rfl hC hI5 (by omega) (by omega) (by omega) (by omega) (fun H6 locs6 ls6 hI6 => ?_)
  refine gx_gc (P := gc_P (gx_n g) (gx_x g)) (mid := 217) (pc := 12) (f := gc_ci 109 0) (L := [some (.ref 1000040), some (.ref 0), none, none]) (st := [.ref 137, .ref 137]) (M := in_M3) (m2 := 109) (n := 3000) (d' := 40) (as := [.ref 137]) (rest := [.ref 137]) (r2 := none) (M2 := in_M4) hT (pk_L_law_0 (gx_n g, gx_x g) 12 (Nat.le_of_ble_eq_true rfl)) en_c2 (Nat.le_of_ble_eq_true rfl) (in_r2 (gx_n g, gx_x g)) hC hI6 (by omega) (by omega) (by omega) (by omega) (fun H7 locs7 hI7 => ?_)
  refine gx_go (P := gc_P (gx_n g) (gx_x g)) (mid := 217) (pc := 15) (f := gc_stA 2 1) (pc' := 16) (L := [some (.ref 1000040), some (.ref 0), none, none]) (L' := [some (.ref 1000040), some (.ref 0), some (.ref 137), none]) (st := [.ref 137]) (st' := []) (M := in_M4) (M1 := in_M4) hT (pk_L_law_0 (gx_n g, gx_x g) 15 (Nat.le_of_ble_eq_true rfl)) rfl hC hI7 (by omega) (by omega) (by omega) (by omega) (fun H8 locs8 ls8 hI8 => ?_)
  refine gx_go (P := gc_P (gx_n g) (gx_x g)) (mid := 217) (pc := 16) (f := gc_k (.int 0) 1) (pc' := 17) (L := [some (.ref 1000040), some (.ref 0), some (.ref 137), none]) (L' := [some (.ref 1000040), some (.ref 0), some (.ref 137), none]) (st := []) (st' := [.int 0]) (M := in_M4) (M1 := in_M4) hT (pk_L_law_0 (gx_n g, gx_x g) 16 (Nat.le_of_ble_eq_true rfl)) rfl hC hI8 (by omega) (by omega) (by omega) (by omega) (fun H9 locs9 ls9 hI9 => ?_)
  refine gx_go (P := gc_P (gx_n g) (gx_x g)) (mid := 217) (pc := 17) (f := gc_stI 3 1) (pc' := 18) (L := [some (.ref 1000040), some (.ref 0), some (.ref 137), none]) (L' := [some (.ref 1000040), some (.ref 0), some (.ref 137), some (.int 0)]) (st := [.int 0]) (st' := []) (M := in_M4) (M1 := in_M4) hT (pk_L_law_0 (gx_n g, gx_x g) 17 (Nat.le_of_ble_eq_true rfl)) rfl hC hI9 (by omega) (by omega) (by omega) (by omega) (fun H10 locs10 ls10 hI10 => ?_)
  exact K H10 locs10 _ _ ls10 hI10 (by omega) (by omega)
/-- the law's loop, to its end -/
theorem en_end {g : gx_T} {p : Program} {l : Launch} {e : Env} {s : State} {m : MethodId} {args : Array Value} {below : List Frame} {meth : Method} {c : Code} {H : Heap} {locs : List Loc} {cells slots : Nat} {ls : Array Slot} (hL : gx_n g ≤ 3072) (hb : s.heap.size ≤ gx_b g) (hC : gx_C g (gc_md 217).1.cls (gc_md 217).2.1 (gc_md 217).2.2.1 (gc_md 217).2.2.2 (gc_md 217).1.name p s m args meth c) (hI : gx_I g (gc_md 217).2.2.1 s (lwL 0) (gm_m z0) H locs cells ls) (hc : cells ≤ 1000) (hs : slots ≤ 100000) : W p l e room_1 s m args below meth c H locs cells slots (fun t => ∃ o, t.status = .running ∧ Ended t below o ∧ (o = .returned (some (.int 1)) ∧ Framed s o t [] 600000 7302249)) (F0 m 18 ls (([] : List Value).map (gx_v g))) := by
  have r1 : room_1.frames = 2048 := rfl
  have r2 : room_1.cells = 600000 := rfl
  have r3 : room_1.slots = 7302249 := rfl
  have r4 : room_1.locals = 84000 := rfl
  have hX : gc_X (gx_n g, gx_x g) 41 217 18 (lwL 0) [] (gm_m z0) (fun r M => r = some (.int 1) ∧ ∃ s', M = gm_m s') := lw_loop (w := (gx_n g, gx_x g)) (fun s h => i_firm h) (show gx_n g < 2 ^ 31 by omega) (fun s' _ => ⟨rfl, s', rfl⟩) (gx_n g) 0 z0 (by show gx_n g ≤ 0 + gx_n g; omega) (Nat.zero_le _) z0_inv
  obtain ⟨n, r, M', hrun, hr, s', hM⟩ := hX
  subst hr
  subst hM
  obtain ⟨-, -, -, hW⟩ := gx_sound (gx_tab g) n 41 217 18 (lwL 0) [] (gm_m z0) (some (.int 1)) (gm_m s') hrun
  have e1 : (gm_m s').1 - (gm_m z0).1 = 0 := Nat.sub_self 192
  have e2 : (gm_m s').2.1 - (gm_m z0).2.1 = 0 := Nat.sub_self 5364
  have w := hW (l := l) (e := e) (R := room_1) (below := below) (slots := slots) hC hI (by omega) (by omega) (by omega) (by omega)
  intro T hT X
  obtain ⟨t, a, o, h1, h2, h3, L, h4, h5⟩ := w T hT X
  refine ⟨t, a, o, h1, h2, h3.1, h4.1, h4.2.1, ?_⟩
  have h6 := h4.2.2
  rw [e1, e2, Nat.add_zero, Nat.add_zero] at h6
  have h7 : s.sameButNew ({ t with vm := s.vm } : State) ([] ++ L) cells slots := h6
  exact (State.sameButNew.drop_fresh h7 (fun x hx => Nat.le_trans hb (h5 x hx))).mono (by omega) (by omega)
