/-! reads and writes of single cells -/
section
variable {s : gm_S}
theorem rk_0 {k : Nat} (hk : k < 17) : gm_gok (gm_m s) [11] 0 k = true := gm_m_gok (ci := 11) (by decide) rfl hk rfl
theorem rc_0 : gm_cl (gm_m s) 0 11 = true := gm_m_cl (ci := 11) (by decide) rfl
theorem rg_0_0 : gm_gv (gm_m s) 0 0 = .ref 83 := Eq.trans rfl rfl
theorem rg_0_1 : gm_gv (gm_m s) 0 1 = .ref 101 := Eq.trans rfl rfl
theorem rg_0_2 : gm_gv (gm_m s) 0 2 = .ref 119 := Eq.trans rfl rfl
theorem rg_0_3 : gm_gv (gm_m s) 0 3 = .ref 1 := Eq.trans rfl rfl
theorem rg_0_4 : gm_gv (gm_m s) 0 4 = .ref 5 := Eq.trans rfl rfl
theorem rg_0_5 : gm_gv (gm_m s) 0 5 = .ref 9 := Eq.trans rfl rfl
theorem rg_0_6 : gm_gv (gm_m s) 0 6 = .ref 13 := Eq.trans rfl rfl
theorem rg_0_7 : gm_gv (gm_m s) 0 7 = .ref 17 := Eq.trans rfl rfl
theorem rg_0_8 : gm_gv (gm_m s) 0 8 = .ref 21 := Eq.trans rfl rfl
theorem rg_0_9 : gm_gv (gm_m s) 0 9 = .int (s.1 0 9) := Eq.trans rfl rfl
theorem rp_0_9 {x : Int32} : gm_ps (gm_m s) 0 9 (.int x) = gm_m (gm_si s 0 9 x) := gm_m_psi (ci := 11) (by decide) rfl rfl
theorem rg_0_10 : gm_gv (gm_m s) 0 10 = .ref 25 := Eq.trans rfl rfl
theorem rg_0_11 : gm_gv (gm_m s) 0 11 = .int (s.1 0 11) := Eq.trans rfl rfl
theorem rp_0_11 {x : Int32} : gm_ps (gm_m s) 0 11 (.int x) = gm_m (gm_si s 0 11 x) := gm_m_psi (ci := 11) (by decide) rfl rfl
theorem rg_0_12 : gm_gv (gm_m s) 0 12 = .ref 26 := Eq.trans rfl rfl
theorem rg_0_13 : gm_gv (gm_m s) 0 13 = .int (s.1 0 13) := Eq.trans rfl rfl
theorem rp_0_13 {x : Int32} : gm_ps (gm_m s) 0 13 (.int x) = gm_m (gm_si s 0 13 x) := gm_m_psi (ci := 11) (by decide) rfl rfl
theorem rg_0_14 : gm_gv (gm_m s) 0 14 = .ref 64 := Eq.trans rfl rfl
theorem rg_0_15 : gm_gv (gm_m s) 0 15 = va_rf (s.2.1 0 15) := Eq.trans rfl rfl
theorem rp_0_15 {r : Nat} : gm_ps (gm_m s) 0 15 (.ref r) = gm_m (gm_sr s 0 15 (some r)) := gm_m_psr (ci := 11) (by decide) rfl rfl
theorem rpn_0_15 : gm_ps (gm_m s) 0 15 .null = gm_m (gm_sr s 0 15 none) := gm_m_psn (ci := 11) (by decide) rfl rfl
theorem rg_0_16 : gm_gv (gm_m s) 0 16 = .ref 27 := Eq.trans rfl rfl
theorem rk_1 {k : Nat} (hk : k < 4) : gm_gok (gm_m s) [5] 1 k = true := gm_m_gok (ci := 5) (by decide) rfl hk rfl
theorem rc_1 : gm_cl (gm_m s) 1 5 = true := gm_m_cl (ci := 5) (by decide) rfl
theorem rg_1_0 : gm_gv (gm_m s) 1 0 = .ref 2 := Eq.trans rfl rfl
theorem rg_1_1 : gm_gv (gm_m s) 1 1 = .ref 3 := Eq.trans rfl rfl
theorem rg_1_2 : gm_gv (gm_m s) 1 2 = .ref 4 := Eq.trans rfl rfl
theorem rg_1_3 : gm_gv (gm_m s) 1 3 = .int (s.1 1 3) := Eq.trans rfl rfl
theorem rp_1_3 {x : Int32} : gm_ps (gm_m s) 1 3 (.int x) = gm_m (gm_si s 1 3 x) := gm_m_psi (ci := 5) (by decide) rfl rfl
theorem ra_2 {i : Int32} : gm_ai (gm_m s) 0 2 i = vp_in i 5 := gm_m_ai (by decide) rfl (Or.inl rfl)
theorem rv_2 {j : Nat} : gm_av (gm_m s) 2 j = s.1 2 j := gm_m_av (t := 0) (n := 5) (by decide) rfl (Or.inl rfl)
theorem rs_2 {j : Nat} {x : Int32} : gm_as (gm_m s) 2 j x = gm_m (gm_si s 2 j x) := gm_m_as (t := 0) (n := 5) (by decide) rfl (Or.inl rfl)
theorem ra_3 {i : Int32} : gm_ai (gm_m s) 0 3 i = vp_in i 5 := gm_m_ai (by decide) rfl (Or.inl rfl)
theorem rv_3 {j : Nat} : gm_av (gm_m s) 3 j = s.1 3 j := gm_m_av (t := 0) (n := 5) (by decide) rfl (Or.inl rfl)
theorem rs_3 {j : Nat} {x : Int32} : gm_as (gm_m s) 3 j x = gm_m (gm_si s 3 j x) := gm_m_as (t := 0) (n := 5) (by decide) rfl (Or.inl rfl)
theorem ra_4 {i : Int32} : gm_ai (gm_m s) 0 4 i = vp_in i 5 := gm_m_ai (by decide) rfl (Or.inl rfl)
theorem rv_4 {j : Nat} : gm_av (gm_m s) 4 j = s.1 4 j := gm_m_av (t := 0) (n := 5) (by decide) rfl (Or.inl rfl)
theorem rs_4 {j : Nat} {x : Int32} : gm_as (gm_m s) 4 j x = gm_m (gm_si s 4 j x) := gm_m_as (t := 0) (n := 5) (by decide) rfl (Or.inl rfl)
theorem rk_5 {k : Nat} (hk : k < 4) : gm_gok (gm_m s) [5] 5 k = true := gm_m_gok (ci := 5) (by decide) rfl hk rfl
theorem rc_5 : gm_cl (gm_m s) 5 5 = true := gm_m_cl (ci := 5) (by decide) rfl
theorem rg_5_0 : gm_gv (gm_m s) 5 0 = .ref 6 := Eq.trans rfl rfl
theorem rg_5_1 : gm_gv (gm_m s) 5 1 = .ref 7 := Eq.trans rfl rfl
theorem rg_5_2 : gm_gv (gm_m s) 5 2 = .ref 8 := Eq.trans rfl rfl
theorem rg_5_3 : gm_gv (gm_m s) 5 3 = .int (s.1 5 3) := Eq.trans rfl rfl
theorem rp_5_3 {x : Int32} : gm_ps (gm_m s) 5 3 (.int x) = gm_m (gm_si s 5 3 x) := gm_m_psi (ci := 5) (by decide) rfl rfl
theorem ra_6 {i : Int32} : gm_ai (gm_m s) 0 6 i = vp_in i 5 := gm_m_ai (by decide) rfl (Or.inl rfl)
theorem rv_6 {j : Nat} : gm_av (gm_m s) 6 j = s.1 6 j := gm_m_av (t := 0) (n := 5) (by decide) rfl (Or.inl rfl)
theorem rs_6 {j : Nat} {x : Int32} : gm_as (gm_m s) 6 j x = gm_m (gm_si s 6 j x) := gm_m_as (t := 0) (n := 5) (by decide) rfl (Or.inl rfl)
theorem ra_7 {i : Int32} : gm_ai (gm_m s) 0 7 i = vp_in i 5 := gm_m_ai (by decide) rfl (Or.inl rfl)
theorem rv_7 {j : Nat} : gm_av (gm_m s) 7 j = s.1 7 j := gm_m_av (t := 0) (n := 5) (by decide) rfl (Or.inl rfl)
theorem rs_7 {j : Nat} {x : Int32} : gm_as (gm_m s) 7 j x = gm_m (gm_si s 7 j x) := gm_m_as (t := 0) (n := 5) (by decide) rfl (Or.inl rfl)
theorem ra_8 {i : Int32} : gm_ai (gm_m s) 0 8 i = vp_in i 5 := gm_m_ai (by decide) rfl (Or.inl rfl)
theorem rv_8 {j : Nat} : gm_av (gm_m s) 8 j = s.1 8 j := gm_m_av (t := 0) (n := 5) (by decide) rfl (Or.inl rfl)
theorem rs_8 {j : Nat} {x : Int32} : gm_as (gm_m s) 8 j x = gm_m (gm_si s 8 j x) := gm_m_as (t := 0) (n := 5) (by decide) rfl (Or.inl rfl)
theorem rk_9 {k : Nat} (hk : k < 4) : gm_gok (gm_m s) [5] 9 k = true := gm_m_gok (ci := 5) (by decide) rfl hk rfl
theorem rc_9 : gm_cl (gm_m s) 9 5 = true := gm_m_cl (ci := 5) (by decide) rfl
theorem rg_9_0 : gm_gv (gm_m s) 9 0 = .ref 10 := Eq.trans rfl rfl
theorem rg_9_1 : gm_gv (gm_m s) 9 1 = .ref 11 := Eq.trans rfl rfl
theorem rg_9_2 : gm_gv (gm_m s) 9 2 = .ref 12 := Eq.trans rfl rfl
theorem rg_9_3 : gm_gv (gm_m s) 9 3 = .int (s.1 9 3) := Eq.trans rfl rfl
theorem rp_9_3 {x : Int32} : gm_ps (gm_m s) 9 3 (.int x) = gm_m (gm_si s 9 3 x) := gm_m_psi (ci := 5) (by decide) rfl rfl
theorem ra_10 {i : Int32} : gm_ai (gm_m s) 0 10 i = vp_in i 10 := gm_m_ai (by decide) rfl (Or.inl rfl)
theorem rv_10 {j : Nat} : gm_av (gm_m s) 10 j = s.1 10 j := gm_m_av (t := 0) (n := 10) (by decide) rfl (Or.inl rfl)
theorem rs_10 {j : Nat} {x : Int32} : gm_as (gm_m s) 10 j x = gm_m (gm_si s 10 j x) := gm_m_as (t := 0) (n := 10) (by decide) rfl (Or.inl rfl)
theorem ra_11 {i : Int32} : gm_ai (gm_m s) 0 11 i = vp_in i 10 := gm_m_ai (by decide) rfl (Or.inl rfl)
theorem rv_11 {j : Nat} : gm_av (gm_m s) 11 j = s.1 11 j := gm_m_av (t := 0) (n := 10) (by decide) rfl (Or.inl rfl)
theorem rs_11 {j : Nat} {x : Int32} : gm_as (gm_m s) 11 j x = gm_m (gm_si s 11 j x) := gm_m_as (t := 0) (n := 10) (by decide) rfl (Or.inl rfl)
theorem ra_12 {i : Int32} : gm_ai (gm_m s) 0 12 i = vp_in i 10 := gm_m_ai (by decide) rfl (Or.inl rfl)
theorem rv_12 {j : Nat} : gm_av (gm_m s) 12 j = s.1 12 j := gm_m_av (t := 0) (n := 10) (by decide) rfl (Or.inl rfl)
theorem rs_12 {j : Nat} {x : Int32} : gm_as (gm_m s) 12 j x = gm_m (gm_si s 12 j x) := gm_m_as (t := 0) (n := 10) (by decide) rfl (Or.inl rfl)
theorem rk_13 {k : Nat} (hk : k < 4) : gm_gok (gm_m s) [5] 13 k = true := gm_m_gok (ci := 5) (by decide) rfl hk rfl
theorem rc_13 : gm_cl (gm_m s) 13 5 = true := gm_m_cl (ci := 5) (by decide) rfl
theorem rg_13_0 : gm_gv (gm_m s) 13 0 = .ref 14 := Eq.trans rfl rfl
theorem rg_13_1 : gm_gv (gm_m s) 13 1 = .ref 15 := Eq.trans rfl rfl
theorem rg_13_2 : gm_gv (gm_m s) 13 2 = .ref 16 := Eq.trans rfl rfl
theorem rg_13_3 : gm_gv (gm_m s) 13 3 = .int (s.1 13 3) := Eq.trans rfl rfl
theorem rp_13_3 {x : Int32} : gm_ps (gm_m s) 13 3 (.int x) = gm_m (gm_si s 13 3 x) := gm_m_psi (ci := 5) (by decide) rfl rfl
theorem ra_14 {i : Int32} : gm_ai (gm_m s) 0 14 i = vp_in i 10 := gm_m_ai (by decide) rfl (Or.inl rfl)
theorem rv_14 {j : Nat} : gm_av (gm_m s) 14 j = s.1 14 j := gm_m_av (t := 0) (n := 10) (by decide) rfl (Or.inl rfl)
theorem rs_14 {j : Nat} {x : Int32} : gm_as (gm_m s) 14 j x = gm_m (gm_si s 14 j x) := gm_m_as (t := 0) (n := 10) (by decide) rfl (Or.inl rfl)
theorem ra_15 {i : Int32} : gm_ai (gm_m s) 0 15 i = vp_in i 10 := gm_m_ai (by decide) rfl (Or.inl rfl)
theorem rv_15 {j : Nat} : gm_av (gm_m s) 15 j = s.1 15 j := gm_m_av (t := 0) (n := 10) (by decide) rfl (Or.inl rfl)
theorem rs_15 {j : Nat} {x : Int32} : gm_as (gm_m s) 15 j x = gm_m (gm_si s 15 j x) := gm_m_as (t := 0) (n := 10) (by decide) rfl (Or.inl rfl)
theorem ra_16 {i : Int32} : gm_ai (gm_m s) 0 16 i = vp_in i 10 := gm_m_ai (by decide) rfl (Or.inl rfl)
theorem rv_16 {j : Nat} : gm_av (gm_m s) 16 j = s.1 16 j := gm_m_av (t := 0) (n := 10) (by decide) rfl (Or.inl rfl)
theorem rs_16 {j : Nat} {x : Int32} : gm_as (gm_m s) 16 j x = gm_m (gm_si s 16 j x) := gm_m_as (t := 0) (n := 10) (by decide) rfl (Or.inl rfl)
theorem rk_17 {k : Nat} (hk : k < 4) : gm_gok (gm_m s) [5] 17 k = true := gm_m_gok (ci := 5) (by decide) rfl hk rfl
theorem rc_17 : gm_cl (gm_m s) 17 5 = true := gm_m_cl (ci := 5) (by decide) rfl
theorem rg_17_0 : gm_gv (gm_m s) 17 0 = .ref 18 := Eq.trans rfl rfl
theorem rg_17_1 : gm_gv (gm_m s) 17 1 = .ref 19 := Eq.trans rfl rfl
theorem rg_17_2 : gm_gv (gm_m s) 17 2 = .ref 20 := Eq.trans rfl rfl
theorem rg_17_3 : gm_gv (gm_m s) 17 3 = .int (s.1 17 3) := Eq.trans rfl rfl
theorem rp_17_3 {x : Int32} : gm_ps (gm_m s) 17 3 (.int x) = gm_m (gm_si s 17 3 x) := gm_m_psi (ci := 5) (by decide) rfl rfl
theorem ra_18 {i : Int32} : gm_ai (gm_m s) 0 18 i = vp_in i 8 := gm_m_ai (by decide) rfl (Or.inl rfl)
theorem rv_18 {j : Nat} : gm_av (gm_m s) 18 j = s.1 18 j := gm_m_av (t := 0) (n := 8) (by decide) rfl (Or.inl rfl)
theorem rs_18 {j : Nat} {x : Int32} : gm_as (gm_m s) 18 j x = gm_m (gm_si s 18 j x) := gm_m_as (t := 0) (n := 8) (by decide) rfl (Or.inl rfl)
theorem ra_19 {i : Int32} : gm_ai (gm_m s) 0 19 i = vp_in i 8 := gm_m_ai (by decide) rfl (Or.inl rfl)
theorem rv_19 {j : Nat} : gm_av (gm_m s) 19 j = s.1 19 j := gm_m_av (t := 0) (n := 8) (by decide) rfl (Or.inl rfl)
theorem rs_19 {j : Nat} {x : Int32} : gm_as (gm_m s) 19 j x = gm_m (gm_si s 19 j x) := gm_m_as (t := 0) (n := 8) (by decide) rfl (Or.inl rfl)
theorem ra_20 {i : Int32} : gm_ai (gm_m s) 0 20 i = vp_in i 8 := gm_m_ai (by decide) rfl (Or.inl rfl)
theorem rv_20 {j : Nat} : gm_av (gm_m s) 20 j = s.1 20 j := gm_m_av (t := 0) (n := 8) (by decide) rfl (Or.inl rfl)
theorem rs_20 {j : Nat} {x : Int32} : gm_as (gm_m s) 20 j x = gm_m (gm_si s 20 j x) := gm_m_as (t := 0) (n := 8) (by decide) rfl (Or.inl rfl)
theorem rk_21 {k : Nat} (hk : k < 4) : gm_gok (gm_m s) [5] 21 k = true := gm_m_gok (ci := 5) (by decide) rfl hk rfl
theorem rc_21 : gm_cl (gm_m s) 21 5 = true := gm_m_cl (ci := 5) (by decide) rfl
theorem rg_21_0 : gm_gv (gm_m s) 21 0 = .ref 22 := Eq.trans rfl rfl
theorem rg_21_1 : gm_gv (gm_m s) 21 1 = .ref 23 := Eq.trans rfl rfl
theorem rg_21_2 : gm_gv (gm_m s) 21 2 = .ref 24 := Eq.trans rfl rfl
theorem rg_21_3 : gm_gv (gm_m s) 21 3 = .int (s.1 21 3) := Eq.trans rfl rfl
theorem rp_21_3 {x : Int32} : gm_ps (gm_m s) 21 3 (.int x) = gm_m (gm_si s 21 3 x) := gm_m_psi (ci := 5) (by decide) rfl rfl
theorem ra_22 {i : Int32} : gm_ai (gm_m s) 0 22 i = vp_in i 8 := gm_m_ai (by decide) rfl (Or.inl rfl)
theorem rv_22 {j : Nat} : gm_av (gm_m s) 22 j = s.1 22 j := gm_m_av (t := 0) (n := 8) (by decide) rfl (Or.inl rfl)
theorem rs_22 {j : Nat} {x : Int32} : gm_as (gm_m s) 22 j x = gm_m (gm_si s 22 j x) := gm_m_as (t := 0) (n := 8) (by decide) rfl (Or.inl rfl)
theorem ra_23 {i : Int32} : gm_ai (gm_m s) 0 23 i = vp_in i 8 := gm_m_ai (by decide) rfl (Or.inl rfl)
theorem rv_23 {j : Nat} : gm_av (gm_m s) 23 j = s.1 23 j := gm_m_av (t := 0) (n := 8) (by decide) rfl (Or.inl rfl)
theorem rs_23 {j : Nat} {x : Int32} : gm_as (gm_m s) 23 j x = gm_m (gm_si s 23 j x) := gm_m_as (t := 0) (n := 8) (by decide) rfl (Or.inl rfl)
theorem ra_24 {i : Int32} : gm_ai (gm_m s) 0 24 i = vp_in i 8 := gm_m_ai (by decide) rfl (Or.inl rfl)
theorem rv_24 {j : Nat} : gm_av (gm_m s) 24 j = s.1 24 j := gm_m_av (t := 0) (n := 8) (by decide) rfl (Or.inl rfl)
theorem rs_24 {j : Nat} {x : Int32} : gm_as (gm_m s) 24 j x = gm_m (gm_si s 24 j x) := gm_m_as (t := 0) (n := 8) (by decide) rfl (Or.inl rfl)
theorem ra_25 {i : Int32} : gm_ai (gm_m s) 1 25 i = vp_in i 100 := gm_m_ai (by decide) rfl (Or.inr (Or.inl rfl))
theorem rv_25 {j : Nat} : gm_av (gm_m s) 25 j = s.1 25 j := gm_m_av (t := 1) (n := 100) (by decide) rfl (Or.inr (Or.inl rfl))
theorem rs_25 {j : Nat} {x : Int32} : gm_as (gm_m s) 25 j x = gm_m (gm_si s 25 j x) := gm_m_as (t := 1) (n := 100) (by decide) rfl (Or.inr (Or.inl rfl))
theorem rk_52 {k : Nat} (hk : k < 3) : gm_gok (gm_m s) [8] 52 k = true := gm_m_gok (ci := 8) (by decide) rfl hk rfl
theorem rc_52 : gm_cl (gm_m s) 52 8 = true := gm_m_cl (ci := 8) (by decide) rfl
theorem rg_52_0 : gm_gv (gm_m s) 52 0 = .int (s.1 52 0) := Eq.trans rfl rfl
theorem rp_52_0 {x : Int32} : gm_ps (gm_m s) 52 0 (.int x) = gm_m (gm_si s 52 0 x) := gm_m_psi (ci := 8) (by decide) rfl rfl
theorem rg_52_1 : gm_gv (gm_m s) 52 1 = .int (s.1 52 1) := Eq.trans rfl rfl
theorem rp_52_1 {x : Int32} : gm_ps (gm_m s) 52 1 (.int x) = gm_m (gm_si s 52 1 x) := gm_m_psi (ci := 8) (by decide) rfl rfl
theorem rg_52_2 : gm_gv (gm_m s) 52 2 = .ref 53 := Eq.trans rfl rfl
theorem ra_53 {i : Int32} : gm_li (gm_m s) 53 i = vp_in i 60 := gm_m_li (by decide) rfl
theorem rv_53 {j : Nat} : gm_lv (gm_m s) 53 j = s.2.2 53 j := gm_m_lv (n := 60) (by decide) rfl
theorem rs_53 {j : Nat} {x : Int64} : gm_ls (gm_m s) 53 j x = gm_m (gm_sl s 53 j x) := gm_m_ls (n := 60) (by decide) rfl
theorem rk_54 {k : Nat} (hk : k < 3) : gm_gok (gm_m s) [8] 54 k = true := gm_m_gok (ci := 8) (by decide) rfl hk rfl
theorem rc_54 : gm_cl (gm_m s) 54 8 = true := gm_m_cl (ci := 8) (by decide) rfl
theorem rg_54_0 : gm_gv (gm_m s) 54 0 = .int (s.1 54 0) := Eq.trans rfl rfl
theorem rp_54_0 {x : Int32} : gm_ps (gm_m s) 54 0 (.int x) = gm_m (gm_si s 54 0 x) := gm_m_psi (ci := 8) (by decide) rfl rfl
theorem rg_54_1 : gm_gv (gm_m s) 54 1 = .int (s.1 54 1) := Eq.trans rfl rfl
theorem rp_54_1 {x : Int32} : gm_ps (gm_m s) 54 1 (.int x) = gm_m (gm_si s 54 1 x) := gm_m_psi (ci := 8) (by decide) rfl rfl
theorem rg_54_2 : gm_gv (gm_m s) 54 2 = .ref 55 := Eq.trans rfl rfl
theorem ra_55 {i : Int32} : gm_li (gm_m s) 55 i = vp_in i 60 := gm_m_li (by decide) rfl
theorem rv_55 {j : Nat} : gm_lv (gm_m s) 55 j = s.2.2 55 j := gm_m_lv (n := 60) (by decide) rfl
theorem rs_55 {j : Nat} {x : Int64} : gm_ls (gm_m s) 55 j x = gm_m (gm_sl s 55 j x) := gm_m_ls (n := 60) (by decide) rfl
theorem rk_56 {k : Nat} (hk : k < 3) : gm_gok (gm_m s) [8] 56 k = true := gm_m_gok (ci := 8) (by decide) rfl hk rfl
theorem rc_56 : gm_cl (gm_m s) 56 8 = true := gm_m_cl (ci := 8) (by decide) rfl
theorem rg_56_0 : gm_gv (gm_m s) 56 0 = .int (s.1 56 0) := Eq.trans rfl rfl
theorem rp_56_0 {x : Int32} : gm_ps (gm_m s) 56 0 (.int x) = gm_m (gm_si s 56 0 x) := gm_m_psi (ci := 8) (by decide) rfl rfl
theorem rg_56_1 : gm_gv (gm_m s) 56 1 = .int (s.1 56 1) := Eq.trans rfl rfl
theorem rp_56_1 {x : Int32} : gm_ps (gm_m s) 56 1 (.int x) = gm_m (gm_si s 56 1 x) := gm_m_psi (ci := 8) (by decide) rfl rfl
theorem rg_56_2 : gm_gv (gm_m s) 56 2 = .ref 57 := Eq.trans rfl rfl
theorem ra_57 {i : Int32} : gm_li (gm_m s) 57 i = vp_in i 60 := gm_m_li (by decide) rfl
theorem rv_57 {j : Nat} : gm_lv (gm_m s) 57 j = s.2.2 57 j := gm_m_lv (n := 60) (by decide) rfl
theorem rs_57 {j : Nat} {x : Int64} : gm_ls (gm_m s) 57 j x = gm_m (gm_sl s 57 j x) := gm_m_ls (n := 60) (by decide) rfl
theorem rk_58 {k : Nat} (hk : k < 3) : gm_gok (gm_m s) [8] 58 k = true := gm_m_gok (ci := 8) (by decide) rfl hk rfl
theorem rc_58 : gm_cl (gm_m s) 58 8 = true := gm_m_cl (ci := 8) (by decide) rfl
theorem rg_58_0 : gm_gv (gm_m s) 58 0 = .int (s.1 58 0) := Eq.trans rfl rfl
theorem rp_58_0 {x : Int32} : gm_ps (gm_m s) 58 0 (.int x) = gm_m (gm_si s 58 0 x) := gm_m_psi (ci := 8) (by decide) rfl rfl
theorem rg_58_1 : gm_gv (gm_m s) 58 1 = .int (s.1 58 1) := Eq.trans rfl rfl
theorem rp_58_1 {x : Int32} : gm_ps (gm_m s) 58 1 (.int x) = gm_m (gm_si s 58 1 x) := gm_m_psi (ci := 8) (by decide) rfl rfl
theorem rg_58_2 : gm_gv (gm_m s) 58 2 = .ref 59 := Eq.trans rfl rfl
theorem ra_59 {i : Int32} : gm_li (gm_m s) 59 i = vp_in i 60 := gm_m_li (by decide) rfl
theorem rv_59 {j : Nat} : gm_lv (gm_m s) 59 j = s.2.2 59 j := gm_m_lv (n := 60) (by decide) rfl
theorem rs_59 {j : Nat} {x : Int64} : gm_ls (gm_m s) 59 j x = gm_m (gm_sl s 59 j x) := gm_m_ls (n := 60) (by decide) rfl
theorem rk_60 {k : Nat} (hk : k < 3) : gm_gok (gm_m s) [8] 60 k = true := gm_m_gok (ci := 8) (by decide) rfl hk rfl
theorem rc_60 : gm_cl (gm_m s) 60 8 = true := gm_m_cl (ci := 8) (by decide) rfl
theorem rg_60_0 : gm_gv (gm_m s) 60 0 = .int (s.1 60 0) := Eq.trans rfl rfl
theorem rp_60_0 {x : Int32} : gm_ps (gm_m s) 60 0 (.int x) = gm_m (gm_si s 60 0 x) := gm_m_psi (ci := 8) (by decide) rfl rfl
theorem rg_60_1 : gm_gv (gm_m s) 60 1 = .int (s.1 60 1) := Eq.trans rfl rfl
theorem rp_60_1 {x : Int32} : gm_ps (gm_m s) 60 1 (.int x) = gm_m (gm_si s 60 1 x) := gm_m_psi (ci := 8) (by decide) rfl rfl
theorem rg_60_2 : gm_gv (gm_m s) 60 2 = .ref 61 := Eq.trans rfl rfl
theorem ra_61 {i : Int32} : gm_li (gm_m s) 61 i = vp_in i 60 := gm_m_li (by decide) rfl
theorem rv_61 {j : Nat} : gm_lv (gm_m s) 61 j = s.2.2 61 j := gm_m_lv (n := 60) (by decide) rfl
theorem rs_61 {j : Nat} {x : Int64} : gm_ls (gm_m s) 61 j x = gm_m (gm_sl s 61 j x) := gm_m_ls (n := 60) (by decide) rfl
theorem rk_62 {k : Nat} (hk : k < 3) : gm_gok (gm_m s) [8] 62 k = true := gm_m_gok (ci := 8) (by decide) rfl hk rfl
theorem rc_62 : gm_cl (gm_m s) 62 8 = true := gm_m_cl (ci := 8) (by decide) rfl
theorem rg_62_0 : gm_gv (gm_m s) 62 0 = .int (s.1 62 0) := Eq.trans rfl rfl
theorem rp_62_0 {x : Int32} : gm_ps (gm_m s) 62 0 (.int x) = gm_m (gm_si s 62 0 x) := gm_m_psi (ci := 8) (by decide) rfl rfl
theorem rg_62_1 : gm_gv (gm_m s) 62 1 = .int (s.1 62 1) := Eq.trans rfl rfl
theorem rp_62_1 {x : Int32} : gm_ps (gm_m s) 62 1 (.int x) = gm_m (gm_si s 62 1 x) := gm_m_psi (ci := 8) (by decide) rfl rfl
theorem rg_62_2 : gm_gv (gm_m s) 62 2 = .ref 63 := Eq.trans rfl rfl
theorem ra_63 {i : Int32} : gm_li (gm_m s) 63 i = vp_in i 60 := gm_m_li (by decide) rfl
theorem rv_63 {j : Nat} : gm_lv (gm_m s) 63 j = s.2.2 63 j := gm_m_lv (n := 60) (by decide) rfl
theorem rs_63 {j : Nat} {x : Int64} : gm_ls (gm_m s) 63 j x = gm_m (gm_sl s 63 j x) := gm_m_ls (n := 60) (by decide) rfl
theorem rk_65 {k : Nat} (hk : k < 4) : gm_gok (gm_m s) [0] 65 k = true := gm_m_gok (ci := 0) (by decide) rfl hk rfl
theorem rc_65 : gm_cl (gm_m s) 65 0 = true := gm_m_cl (ci := 0) (by decide) rfl
theorem rg_65_0 : gm_gv (gm_m s) 65 0 = .int (s.1 65 0) := Eq.trans rfl rfl
theorem rp_65_0 {x : Int32} : gm_ps (gm_m s) 65 0 (.int x) = gm_m (gm_si s 65 0 x) := gm_m_psi (ci := 0) (by decide) rfl rfl
theorem rg_65_1 : gm_gv (gm_m s) 65 1 = .int (s.1 65 1) := Eq.trans rfl rfl
theorem rp_65_1 {x : Int32} : gm_ps (gm_m s) 65 1 (.int x) = gm_m (gm_si s 65 1 x) := gm_m_psi (ci := 0) (by decide) rfl rfl
theorem rg_65_2 : gm_gv (gm_m s) 65 2 = .int (s.1 65 2) := Eq.trans rfl rfl
theorem rp_65_2 {x : Int32} : gm_ps (gm_m s) 65 2 (.int x) = gm_m (gm_si s 65 2 x) := gm_m_psi (ci := 0) (by decide) rfl rfl
theorem rg_65_3 : gm_gv (gm_m s) 65 3 = .ref 66 := Eq.trans rfl rfl
theorem ra_66 {i : Int32} : gm_ai (gm_m s) 0 66 i = vp_in i 20 := gm_m_ai (by decide) rfl (Or.inl rfl)
theorem rv_66 {j : Nat} : gm_av (gm_m s) 66 j = s.1 66 j := gm_m_av (t := 0) (n := 20) (by decide) rfl (Or.inl rfl)
theorem rs_66 {j : Nat} {x : Int32} : gm_as (gm_m s) 66 j x = gm_m (gm_si s 66 j x) := gm_m_as (t := 0) (n := 20) (by decide) rfl (Or.inl rfl)
theorem rk_67 {k : Nat} (hk : k < 4) : gm_gok (gm_m s) [3] 67 k = true := gm_m_gok (ci := 3) (by decide) rfl hk rfl
theorem rc_67 : gm_cl (gm_m s) 67 3 = true := gm_m_cl (ci := 3) (by decide) rfl
theorem rg_67_0 : gm_gv (gm_m s) 67 0 = .int (s.1 67 0) := Eq.trans rfl rfl
theorem rp_67_0 {x : Int32} : gm_ps (gm_m s) 67 0 (.int x) = gm_m (gm_si s 67 0 x) := gm_m_psi (ci := 3) (by decide) rfl rfl
theorem rg_67_1 : gm_gv (gm_m s) 67 1 = .int (s.1 67 1) := Eq.trans rfl rfl
theorem rp_67_1 {x : Int32} : gm_ps (gm_m s) 67 1 (.int x) = gm_m (gm_si s 67 1 x) := gm_m_psi (ci := 3) (by decide) rfl rfl
theorem rg_67_2 : gm_gv (gm_m s) 67 2 = .int (s.1 67 2) := Eq.trans rfl rfl
theorem rp_67_2 {x : Int32} : gm_ps (gm_m s) 67 2 (.int x) = gm_m (gm_si s 67 2 x) := gm_m_psi (ci := 3) (by decide) rfl rfl
theorem rg_67_3 : gm_gv (gm_m s) 67 3 = .ref 68 := Eq.trans rfl rfl
theorem ra_68 {i : Int32} : gm_ai (gm_m s) 0 68 i = vp_in i 20 := gm_m_ai (by decide) rfl (Or.inl rfl)
theorem rv_68 {j : Nat} : gm_av (gm_m s) 68 j = s.1 68 j := gm_m_av (t := 0) (n := 20) (by decide) rfl (Or.inl rfl)
theorem rs_68 {j : Nat} {x : Int32} : gm_as (gm_m s) 68 j x = gm_m (gm_si s 68 j x) := gm_m_as (t := 0) (n := 20) (by decide) rfl (Or.inl rfl)
theorem rk_69 {k : Nat} (hk : k < 4) : gm_gok (gm_m s) [4] 69 k = true := gm_m_gok (ci := 4) (by decide) rfl hk rfl
theorem rc_69 : gm_cl (gm_m s) 69 4 = true := gm_m_cl (ci := 4) (by decide) rfl
theorem rg_69_0 : gm_gv (gm_m s) 69 0 = .int (s.1 69 0) := Eq.trans rfl rfl
theorem rp_69_0 {x : Int32} : gm_ps (gm_m s) 69 0 (.int x) = gm_m (gm_si s 69 0 x) := gm_m_psi (ci := 4) (by decide) rfl rfl
theorem rg_69_1 : gm_gv (gm_m s) 69 1 = .int (s.1 69 1) := Eq.trans rfl rfl
theorem rp_69_1 {x : Int32} : gm_ps (gm_m s) 69 1 (.int x) = gm_m (gm_si s 69 1 x) := gm_m_psi (ci := 4) (by decide) rfl rfl
theorem rg_69_2 : gm_gv (gm_m s) 69 2 = .int (s.1 69 2) := Eq.trans rfl rfl
theorem rp_69_2 {x : Int32} : gm_ps (gm_m s) 69 2 (.int x) = gm_m (gm_si s 69 2 x) := gm_m_psi (ci := 4) (by decide) rfl rfl
theorem rg_69_3 : gm_gv (gm_m s) 69 3 = .ref 70 := Eq.trans rfl rfl
theorem ra_70 {i : Int32} : gm_ai (gm_m s) 0 70 i = vp_in i 20 := gm_m_ai (by decide) rfl (Or.inl rfl)
theorem rv_70 {j : Nat} : gm_av (gm_m s) 70 j = s.1 70 j := gm_m_av (t := 0) (n := 20) (by decide) rfl (Or.inl rfl)
theorem rs_70 {j : Nat} {x : Int32} : gm_as (gm_m s) 70 j x = gm_m (gm_si s 70 j x) := gm_m_as (t := 0) (n := 20) (by decide) rfl (Or.inl rfl)
theorem rk_71 {k : Nat} (hk : k < 4) : gm_gok (gm_m s) [7] 71 k = true := gm_m_gok (ci := 7) (by decide) rfl hk rfl
theorem rc_71 : gm_cl (gm_m s) 71 7 = true := gm_m_cl (ci := 7) (by decide) rfl
theorem rg_71_0 : gm_gv (gm_m s) 71 0 = .int (s.1 71 0) := Eq.trans rfl rfl
theorem rp_71_0 {x : Int32} : gm_ps (gm_m s) 71 0 (.int x) = gm_m (gm_si s 71 0 x) := gm_m_psi (ci := 7) (by decide) rfl rfl
theorem rg_71_1 : gm_gv (gm_m s) 71 1 = .int (s.1 71 1) := Eq.trans rfl rfl
theorem rp_71_1 {x : Int32} : gm_ps (gm_m s) 71 1 (.int x) = gm_m (gm_si s 71 1 x) := gm_m_psi (ci := 7) (by decide) rfl rfl
theorem rg_71_2 : gm_gv (gm_m s) 71 2 = .int (s.1 71 2) := Eq.trans rfl rfl
theorem rp_71_2 {x : Int32} : gm_ps (gm_m s) 71 2 (.int x) = gm_m (gm_si s 71 2 x) := gm_m_psi (ci := 7) (by decide) rfl rfl
theorem rg_71_3 : gm_gv (gm_m s) 71 3 = .ref 72 := Eq.trans rfl rfl
theorem ra_72 {i : Int32} : gm_ai (gm_m s) 0 72 i = vp_in i 20 := gm_m_ai (by decide) rfl (Or.inl rfl)
theorem rv_72 {j : Nat} : gm_av (gm_m s) 72 j = s.1 72 j := gm_m_av (t := 0) (n := 20) (by decide) rfl (Or.inl rfl)
theorem rs_72 {j : Nat} {x : Int32} : gm_as (gm_m s) 72 j x = gm_m (gm_si s 72 j x) := gm_m_as (t := 0) (n := 20) (by decide) rfl (Or.inl rfl)
theorem rk_73 {k : Nat} (hk : k < 4) : gm_gok (gm_m s) [2] 73 k = true := gm_m_gok (ci := 2) (by decide) rfl hk rfl
theorem rc_73 : gm_cl (gm_m s) 73 2 = true := gm_m_cl (ci := 2) (by decide) rfl
theorem rg_73_0 : gm_gv (gm_m s) 73 0 = .int (s.1 73 0) := Eq.trans rfl rfl
theorem rp_73_0 {x : Int32} : gm_ps (gm_m s) 73 0 (.int x) = gm_m (gm_si s 73 0 x) := gm_m_psi (ci := 2) (by decide) rfl rfl
theorem rg_73_1 : gm_gv (gm_m s) 73 1 = .int (s.1 73 1) := Eq.trans rfl rfl
theorem rp_73_1 {x : Int32} : gm_ps (gm_m s) 73 1 (.int x) = gm_m (gm_si s 73 1 x) := gm_m_psi (ci := 2) (by decide) rfl rfl
theorem rg_73_2 : gm_gv (gm_m s) 73 2 = .int (s.1 73 2) := Eq.trans rfl rfl
theorem rp_73_2 {x : Int32} : gm_ps (gm_m s) 73 2 (.int x) = gm_m (gm_si s 73 2 x) := gm_m_psi (ci := 2) (by decide) rfl rfl
theorem rg_73_3 : gm_gv (gm_m s) 73 3 = .ref 74 := Eq.trans rfl rfl
theorem ra_74 {i : Int32} : gm_ai (gm_m s) 0 74 i = vp_in i 20 := gm_m_ai (by decide) rfl (Or.inl rfl)
theorem rv_74 {j : Nat} : gm_av (gm_m s) 74 j = s.1 74 j := gm_m_av (t := 0) (n := 20) (by decide) rfl (Or.inl rfl)
theorem rs_74 {j : Nat} {x : Int32} : gm_as (gm_m s) 74 j x = gm_m (gm_si s 74 j x) := gm_m_as (t := 0) (n := 20) (by decide) rfl (Or.inl rfl)
theorem rk_75 {k : Nat} (hk : k < 4) : gm_gok (gm_m s) [6] 75 k = true := gm_m_gok (ci := 6) (by decide) rfl hk rfl
theorem rc_75 : gm_cl (gm_m s) 75 6 = true := gm_m_cl (ci := 6) (by decide) rfl
theorem rg_75_0 : gm_gv (gm_m s) 75 0 = .int (s.1 75 0) := Eq.trans rfl rfl
theorem rp_75_0 {x : Int32} : gm_ps (gm_m s) 75 0 (.int x) = gm_m (gm_si s 75 0 x) := gm_m_psi (ci := 6) (by decide) rfl rfl
theorem rg_75_1 : gm_gv (gm_m s) 75 1 = .int (s.1 75 1) := Eq.trans rfl rfl
theorem rp_75_1 {x : Int32} : gm_ps (gm_m s) 75 1 (.int x) = gm_m (gm_si s 75 1 x) := gm_m_psi (ci := 6) (by decide) rfl rfl
theorem rg_75_2 : gm_gv (gm_m s) 75 2 = .int (s.1 75 2) := Eq.trans rfl rfl
theorem rp_75_2 {x : Int32} : gm_ps (gm_m s) 75 2 (.int x) = gm_m (gm_si s 75 2 x) := gm_m_psi (ci := 6) (by decide) rfl rfl
theorem rg_75_3 : gm_gv (gm_m s) 75 3 = .ref 76 := Eq.trans rfl rfl
theorem ra_76 {i : Int32} : gm_ai (gm_m s) 0 76 i = vp_in i 20 := gm_m_ai (by decide) rfl (Or.inl rfl)
theorem rv_76 {j : Nat} : gm_av (gm_m s) 76 j = s.1 76 j := gm_m_av (t := 0) (n := 20) (by decide) rfl (Or.inl rfl)
theorem rs_76 {j : Nat} {x : Int32} : gm_as (gm_m s) 76 j x = gm_m (gm_si s 76 j x) := gm_m_as (t := 0) (n := 20) (by decide) rfl (Or.inl rfl)
theorem rk_77 {k : Nat} (hk : k < 4) : gm_gok (gm_m s) [9] 77 k = true := gm_m_gok (ci := 9) (by decide) rfl hk rfl
theorem rc_77 : gm_cl (gm_m s) 77 9 = true := gm_m_cl (ci := 9) (by decide) rfl
theorem rg_77_0 : gm_gv (gm_m s) 77 0 = .int (s.1 77 0) := Eq.trans rfl rfl
theorem rp_77_0 {x : Int32} : gm_ps (gm_m s) 77 0 (.int x) = gm_m (gm_si s 77 0 x) := gm_m_psi (ci := 9) (by decide) rfl rfl
theorem rg_77_1 : gm_gv (gm_m s) 77 1 = .int (s.1 77 1) := Eq.trans rfl rfl
theorem rp_77_1 {x : Int32} : gm_ps (gm_m s) 77 1 (.int x) = gm_m (gm_si s 77 1 x) := gm_m_psi (ci := 9) (by decide) rfl rfl
theorem rg_77_2 : gm_gv (gm_m s) 77 2 = .int (s.1 77 2) := Eq.trans rfl rfl
theorem rp_77_2 {x : Int32} : gm_ps (gm_m s) 77 2 (.int x) = gm_m (gm_si s 77 2 x) := gm_m_psi (ci := 9) (by decide) rfl rfl
theorem rg_77_3 : gm_gv (gm_m s) 77 3 = .ref 78 := Eq.trans rfl rfl
theorem ra_78 {i : Int32} : gm_ai (gm_m s) 0 78 i = vp_in i 20 := gm_m_ai (by decide) rfl (Or.inl rfl)
theorem rv_78 {j : Nat} : gm_av (gm_m s) 78 j = s.1 78 j := gm_m_av (t := 0) (n := 20) (by decide) rfl (Or.inl rfl)
theorem rs_78 {j : Nat} {x : Int32} : gm_as (gm_m s) 78 j x = gm_m (gm_si s 78 j x) := gm_m_as (t := 0) (n := 20) (by decide) rfl (Or.inl rfl)
theorem rk_137 {k : Nat} (hk : k < 79) : gm_gok (gm_m s) [12] 137 k = true := gm_m_gok (ci := 12) (by decide) rfl hk rfl
theorem rc_137 : gm_cl (gm_m s) 137 12 = true := gm_m_cl (ci := 12) (by decide) rfl
theorem rg_137_0 : gm_gv (gm_m s) 137 0 = .int (s.1 137 0) := Eq.trans rfl rfl
theorem rp_137_0 {x : Int32} : gm_ps (gm_m s) 137 0 (.int x) = gm_m (gm_si s 137 0 x) := gm_m_psi (ci := 12) (by decide) rfl rfl
theorem rg_137_1 : gm_gv (gm_m s) 137 1 = .int (s.1 137 1) := Eq.trans rfl rfl
theorem rp_137_1 {x : Int32} : gm_ps (gm_m s) 137 1 (.int x) = gm_m (gm_si s 137 1 x) := gm_m_psi (ci := 12) (by decide) rfl rfl
theorem rg_137_2 : gm_gv (gm_m s) 137 2 = .int (s.1 137 2) := Eq.trans rfl rfl
theorem rp_137_2 {x : Int32} : gm_ps (gm_m s) 137 2 (.int x) = gm_m (gm_si s 137 2 x) := gm_m_psi (ci := 12) (by decide) rfl rfl
theorem rg_137_3 : gm_gv (gm_m s) 137 3 = .ref 138 := Eq.trans rfl rfl
theorem rg_137_4 : gm_gv (gm_m s) 137 4 = .ref 139 := Eq.trans rfl rfl
theorem rg_137_5 : gm_gv (gm_m s) 137 5 = .ref 140 := Eq.trans rfl rfl
theorem rg_137_6 : gm_gv (gm_m s) 137 6 = .ref 141 := Eq.trans rfl rfl
theorem rg_137_7 : gm_gv (gm_m s) 137 7 = .ref 142 := Eq.trans rfl rfl
theorem rg_137_8 : gm_gv (gm_m s) 137 8 = .ref 143 := Eq.trans rfl rfl
theorem rg_137_9 : gm_gv (gm_m s) 137 9 = .ref 144 := Eq.trans rfl rfl
theorem rg_137_10 : gm_gv (gm_m s) 137 10 = .ref 145 := Eq.trans rfl rfl
theorem rg_137_11 : gm_gv (gm_m s) 137 11 = .ref 146 := Eq.trans rfl rfl
theorem rg_137_12 : gm_gv (gm_m s) 137 12 = .ref 147 := Eq.trans rfl rfl
theorem rg_137_13 : gm_gv (gm_m s) 137 13 = .int (s.1 137 13) := Eq.trans rfl rfl
theorem rp_137_13 {x : Int32} : gm_ps (gm_m s) 137 13 (.int x) = gm_m (gm_si s 137 13 x) := gm_m_psi (ci := 12) (by decide) rfl rfl
theorem rg_137_14 : gm_gv (gm_m s) 137 14 = .int (s.1 137 14) := Eq.trans rfl rfl
theorem rp_137_14 {x : Int32} : gm_ps (gm_m s) 137 14 (.int x) = gm_m (gm_si s 137 14 x) := gm_m_psi (ci := 12) (by decide) rfl rfl
theorem rg_137_15 : gm_gv (gm_m s) 137 15 = .int (s.1 137 15) := Eq.trans rfl rfl
theorem rp_137_15 {x : Int32} : gm_ps (gm_m s) 137 15 (.int x) = gm_m (gm_si s 137 15 x) := gm_m_psi (ci := 12) (by decide) rfl rfl
theorem rg_137_16 : gm_gv (gm_m s) 137 16 = .int (s.1 137 16) := Eq.trans rfl rfl
theorem rp_137_16 {x : Int32} : gm_ps (gm_m s) 137 16 (.int x) = gm_m (gm_si s 137 16 x) := gm_m_psi (ci := 12) (by decide) rfl rfl
theorem rg_137_17 : gm_gv (gm_m s) 137 17 = .int (s.1 137 17) := Eq.trans rfl rfl
theorem rp_137_17 {x : Int32} : gm_ps (gm_m s) 137 17 (.int x) = gm_m (gm_si s 137 17 x) := gm_m_psi (ci := 12) (by decide) rfl rfl
theorem rg_137_18 : gm_gv (gm_m s) 137 18 = .ref 148 := Eq.trans rfl rfl
theorem rg_137_19 : gm_gv (gm_m s) 137 19 = .ref 149 := Eq.trans rfl rfl
theorem rg_137_20 : gm_gv (gm_m s) 137 20 = .ref 150 := Eq.trans rfl rfl
theorem rg_137_21 : gm_gv (gm_m s) 137 21 = .ref 151 := Eq.trans rfl rfl
theorem rg_137_22 : gm_gv (gm_m s) 137 22 = .ref 152 := Eq.trans rfl rfl
theorem rg_137_23 : gm_gv (gm_m s) 137 23 = .ref 153 := Eq.trans rfl rfl
theorem rg_137_24 : gm_gv (gm_m s) 137 24 = .ref 154 := Eq.trans rfl rfl
theorem rg_137_25 : gm_gv (gm_m s) 137 25 = .ref 155 := Eq.trans rfl rfl
theorem rg_137_26 : gm_gv (gm_m s) 137 26 = .int (s.1 137 26) := Eq.trans rfl rfl
theorem rp_137_26 {x : Int32} : gm_ps (gm_m s) 137 26 (.int x) = gm_m (gm_si s 137 26 x) := gm_m_psi (ci := 12) (by decide) rfl rfl
theorem rg_137_27 : gm_gv (gm_m s) 137 27 = .int (s.1 137 27) := Eq.trans rfl rfl
theorem rp_137_27 {x : Int32} : gm_ps (gm_m s) 137 27 (.int x) = gm_m (gm_si s 137 27 x) := gm_m_psi (ci := 12) (by decide) rfl rfl
theorem rg_137_28 : gm_gv (gm_m s) 137 28 = .int (s.1 137 28) := Eq.trans rfl rfl
theorem rp_137_28 {x : Int32} : gm_ps (gm_m s) 137 28 (.int x) = gm_m (gm_si s 137 28 x) := gm_m_psi (ci := 12) (by decide) rfl rfl
theorem rg_137_29 : gm_gv (gm_m s) 137 29 = .ref 156 := Eq.trans rfl rfl
theorem rg_137_30 : gm_gv (gm_m s) 137 30 = .ref 157 := Eq.trans rfl rfl
theorem rg_137_31 : gm_gv (gm_m s) 137 31 = .int (s.1 137 31) := Eq.trans rfl rfl
theorem rp_137_31 {x : Int32} : gm_ps (gm_m s) 137 31 (.int x) = gm_m (gm_si s 137 31 x) := gm_m_psi (ci := 12) (by decide) rfl rfl
theorem rg_137_32 : gm_gv (gm_m s) 137 32 = .int (s.1 137 32) := Eq.trans rfl rfl
theorem rp_137_32 {x : Int32} : gm_ps (gm_m s) 137 32 (.int x) = gm_m (gm_si s 137 32 x) := gm_m_psi (ci := 12) (by decide) rfl rfl
theorem rg_137_33 : gm_gv (gm_m s) 137 33 = .ref 158 := Eq.trans rfl rfl
theorem rg_137_34 : gm_gv (gm_m s) 137 34 = .ref 159 := Eq.trans rfl rfl
theorem rg_137_35 : gm_gv (gm_m s) 137 35 = .ref 160 := Eq.trans rfl rfl
theorem rg_137_36 : gm_gv (gm_m s) 137 36 = .ref 161 := Eq.trans rfl rfl
theorem rg_137_37 : gm_gv (gm_m s) 137 37 = .ref 162 := Eq.trans rfl rfl
theorem rg_137_38 : gm_gv (gm_m s) 137 38 = .int (s.1 137 38) := Eq.trans rfl rfl
theorem rp_137_38 {x : Int32} : gm_ps (gm_m s) 137 38 (.int x) = gm_m (gm_si s 137 38 x) := gm_m_psi (ci := 12) (by decide) rfl rfl
theorem rg_137_39 : gm_gv (gm_m s) 137 39 = .ref 163 := Eq.trans rfl rfl
theorem rg_137_40 : gm_gv (gm_m s) 137 40 = .ref 164 := Eq.trans rfl rfl
theorem rg_137_41 : gm_gv (gm_m s) 137 41 = .ref 165 := Eq.trans rfl rfl
theorem rg_137_42 : gm_gv (gm_m s) 137 42 = .int (s.1 137 42) := Eq.trans rfl rfl
theorem rp_137_42 {x : Int32} : gm_ps (gm_m s) 137 42 (.int x) = gm_m (gm_si s 137 42 x) := gm_m_psi (ci := 12) (by decide) rfl rfl
theorem rg_137_43 : gm_gv (gm_m s) 137 43 = .int (s.1 137 43) := Eq.trans rfl rfl
theorem rp_137_43 {x : Int32} : gm_ps (gm_m s) 137 43 (.int x) = gm_m (gm_si s 137 43 x) := gm_m_psi (ci := 12) (by decide) rfl rfl
theorem rg_137_44 : gm_gv (gm_m s) 137 44 = .ref 166 := Eq.trans rfl rfl
theorem rg_137_45 : gm_gv (gm_m s) 137 45 = .ref 167 := Eq.trans rfl rfl
theorem rg_137_46 : gm_gv (gm_m s) 137 46 = .ref 168 := Eq.trans rfl rfl
theorem rg_137_47 : gm_gv (gm_m s) 137 47 = .ref 169 := Eq.trans rfl rfl
theorem rg_137_48 : gm_gv (gm_m s) 137 48 = .int (s.1 137 48) := Eq.trans rfl rfl
theorem rp_137_48 {x : Int32} : gm_ps (gm_m s) 137 48 (.int x) = gm_m (gm_si s 137 48 x) := gm_m_psi (ci := 12) (by decide) rfl rfl
theorem rg_137_49 : gm_gv (gm_m s) 137 49 = .int (s.1 137 49) := Eq.trans rfl rfl
theorem rp_137_49 {x : Int32} : gm_ps (gm_m s) 137 49 (.int x) = gm_m (gm_si s 137 49 x) := gm_m_psi (ci := 12) (by decide) rfl rfl
theorem rg_137_50 : gm_gv (gm_m s) 137 50 = .int (s.1 137 50) := Eq.trans rfl rfl
theorem rp_137_50 {x : Int32} : gm_ps (gm_m s) 137 50 (.int x) = gm_m (gm_si s 137 50 x) := gm_m_psi (ci := 12) (by decide) rfl rfl
theorem rg_137_51 : gm_gv (gm_m s) 137 51 = .int (s.1 137 51) := Eq.trans rfl rfl
theorem rp_137_51 {x : Int32} : gm_ps (gm_m s) 137 51 (.int x) = gm_m (gm_si s 137 51 x) := gm_m_psi (ci := 12) (by decide) rfl rfl
theorem rg_137_52 : gm_gv (gm_m s) 137 52 = .int (s.1 137 52) := Eq.trans rfl rfl
theorem rp_137_52 {x : Int32} : gm_ps (gm_m s) 137 52 (.int x) = gm_m (gm_si s 137 52 x) := gm_m_psi (ci := 12) (by decide) rfl rfl
theorem rg_137_53 : gm_gv (gm_m s) 137 53 = .int (s.1 137 53) := Eq.trans rfl rfl
theorem rp_137_53 {x : Int32} : gm_ps (gm_m s) 137 53 (.int x) = gm_m (gm_si s 137 53 x) := gm_m_psi (ci := 12) (by decide) rfl rfl
theorem rg_137_54 : gm_gv (gm_m s) 137 54 = .int (s.1 137 54) := Eq.trans rfl rfl
theorem rp_137_54 {x : Int32} : gm_ps (gm_m s) 137 54 (.int x) = gm_m (gm_si s 137 54 x) := gm_m_psi (ci := 12) (by decide) rfl rfl
theorem rg_137_55 : gm_gv (gm_m s) 137 55 = .int (s.1 137 55) := Eq.trans rfl rfl
theorem rp_137_55 {x : Int32} : gm_ps (gm_m s) 137 55 (.int x) = gm_m (gm_si s 137 55 x) := gm_m_psi (ci := 12) (by decide) rfl rfl
theorem rg_137_56 : gm_gv (gm_m s) 137 56 = .ref 170 := Eq.trans rfl rfl
theorem rg_137_57 : gm_gv (gm_m s) 137 57 = .ref 171 := Eq.trans rfl rfl
theorem rg_137_58 : gm_gv (gm_m s) 137 58 = .ref 172 := Eq.trans rfl rfl
theorem rg_137_59 : gm_gv (gm_m s) 137 59 = .ref 173 := Eq.trans rfl rfl
theorem rg_137_60 : gm_gv (gm_m s) 137 60 = .ref 174 := Eq.trans rfl rfl
theorem rg_137_61 : gm_gv (gm_m s) 137 61 = .ref 175 := Eq.trans rfl rfl
theorem rg_137_62 : gm_gv (gm_m s) 137 62 = .ref 176 := Eq.trans rfl rfl
theorem rg_137_63 : gm_gv (gm_m s) 137 63 = .ref 177 := Eq.trans rfl rfl
theorem rg_137_64 : gm_gv (gm_m s) 137 64 = .ref 178 := Eq.trans rfl rfl
theorem rg_137_65 : gm_gv (gm_m s) 137 65 = .ref 179 := Eq.trans rfl rfl
theorem rg_137_66 : gm_gv (gm_m s) 137 66 = .ref 180 := Eq.trans rfl rfl
theorem rg_137_67 : gm_gv (gm_m s) 137 67 = .ref 181 := Eq.trans rfl rfl
theorem rg_137_68 : gm_gv (gm_m s) 137 68 = .ref 182 := Eq.trans rfl rfl
theorem rg_137_69 : gm_gv (gm_m s) 137 69 = .ref 183 := Eq.trans rfl rfl
theorem rg_137_70 : gm_gv (gm_m s) 137 70 = .ref 184 := Eq.trans rfl rfl
theorem rg_137_71 : gm_gv (gm_m s) 137 71 = .ref 185 := Eq.trans rfl rfl
theorem rg_137_72 : gm_gv (gm_m s) 137 72 = .ref 186 := Eq.trans rfl rfl
theorem rg_137_73 : gm_gv (gm_m s) 137 73 = .int (s.1 137 73) := Eq.trans rfl rfl
theorem rp_137_73 {x : Int32} : gm_ps (gm_m s) 137 73 (.int x) = gm_m (gm_si s 137 73 x) := gm_m_psi (ci := 12) (by decide) rfl rfl
theorem rg_137_74 : gm_gv (gm_m s) 137 74 = .ref 187 := Eq.trans rfl rfl
theorem rg_137_75 : gm_gv (gm_m s) 137 75 = .ref 188 := Eq.trans rfl rfl
theorem rg_137_76 : gm_gv (gm_m s) 137 76 = .ref 189 := Eq.trans rfl rfl
theorem rg_137_77 : gm_gv (gm_m s) 137 77 = .ref 190 := Eq.trans rfl rfl
theorem rg_137_78 : gm_gv (gm_m s) 137 78 = .ref 191 := Eq.trans rfl rfl
theorem ra_138 {i : Int32} : gm_ai (gm_m s) 0 138 i = vp_in i 4 := gm_m_ai (by decide) rfl (Or.inl rfl)
theorem rv_138 {j : Nat} : gm_av (gm_m s) 138 j = s.1 138 j := gm_m_av (t := 0) (n := 4) (by decide) rfl (Or.inl rfl)
theorem rs_138 {j : Nat} {x : Int32} : gm_as (gm_m s) 138 j x = gm_m (gm_si s 138 j x) := gm_m_as (t := 0) (n := 4) (by decide) rfl (Or.inl rfl)
theorem ra_139 {i : Int32} : gm_ai (gm_m s) 0 139 i = vp_in i 6 := gm_m_ai (by decide) rfl (Or.inl rfl)
theorem rv_139 {j : Nat} : gm_av (gm_m s) 139 j = s.1 139 j := gm_m_av (t := 0) (n := 6) (by decide) rfl (Or.inl rfl)
theorem rs_139 {j : Nat} {x : Int32} : gm_as (gm_m s) 139 j x = gm_m (gm_si s 139 j x) := gm_m_as (t := 0) (n := 6) (by decide) rfl (Or.inl rfl)
theorem ra_140 {i : Int32} : gm_ai (gm_m s) 0 140 i = vp_in i 6 := gm_m_ai (by decide) rfl (Or.inl rfl)
theorem rv_140 {j : Nat} : gm_av (gm_m s) 140 j = s.1 140 j := gm_m_av (t := 0) (n := 6) (by decide) rfl (Or.inl rfl)
theorem rs_140 {j : Nat} {x : Int32} : gm_as (gm_m s) 140 j x = gm_m (gm_si s 140 j x) := gm_m_as (t := 0) (n := 6) (by decide) rfl (Or.inl rfl)
theorem ra_141 {i : Int32} : gm_ai (gm_m s) 0 141 i = vp_in i 6 := gm_m_ai (by decide) rfl (Or.inl rfl)
theorem rv_141 {j : Nat} : gm_av (gm_m s) 141 j = s.1 141 j := gm_m_av (t := 0) (n := 6) (by decide) rfl (Or.inl rfl)
theorem rs_141 {j : Nat} {x : Int32} : gm_as (gm_m s) 141 j x = gm_m (gm_si s 141 j x) := gm_m_as (t := 0) (n := 6) (by decide) rfl (Or.inl rfl)
theorem ra_142 {i : Int32} : gm_ai (gm_m s) 0 142 i = vp_in i 24 := gm_m_ai (by decide) rfl (Or.inl rfl)
theorem rv_142 {j : Nat} : gm_av (gm_m s) 142 j = s.1 142 j := gm_m_av (t := 0) (n := 24) (by decide) rfl (Or.inl rfl)
theorem rs_142 {j : Nat} {x : Int32} : gm_as (gm_m s) 142 j x = gm_m (gm_si s 142 j x) := gm_m_as (t := 0) (n := 24) (by decide) rfl (Or.inl rfl)
theorem ra_143 {i : Int32} : gm_ai (gm_m s) 0 143 i = vp_in i 8 := gm_m_ai (by decide) rfl (Or.inl rfl)
theorem rv_143 {j : Nat} : gm_av (gm_m s) 143 j = s.1 143 j := gm_m_av (t := 0) (n := 8) (by decide) rfl (Or.inl rfl)
theorem rs_143 {j : Nat} {x : Int32} : gm_as (gm_m s) 143 j x = gm_m (gm_si s 143 j x) := gm_m_as (t := 0) (n := 8) (by decide) rfl (Or.inl rfl)
theorem ra_144 {i : Int32} : gm_ai (gm_m s) 0 144 i = vp_in i 8 := gm_m_ai (by decide) rfl (Or.inl rfl)
theorem rv_144 {j : Nat} : gm_av (gm_m s) 144 j = s.1 144 j := gm_m_av (t := 0) (n := 8) (by decide) rfl (Or.inl rfl)
theorem rs_144 {j : Nat} {x : Int32} : gm_as (gm_m s) 144 j x = gm_m (gm_si s 144 j x) := gm_m_as (t := 0) (n := 8) (by decide) rfl (Or.inl rfl)
theorem ra_145 {i : Int32} : gm_ai (gm_m s) 0 145 i = vp_in i 8 := gm_m_ai (by decide) rfl (Or.inl rfl)
theorem rv_145 {j : Nat} : gm_av (gm_m s) 145 j = s.1 145 j := gm_m_av (t := 0) (n := 8) (by decide) rfl (Or.inl rfl)
theorem rs_145 {j : Nat} {x : Int32} : gm_as (gm_m s) 145 j x = gm_m (gm_si s 145 j x) := gm_m_as (t := 0) (n := 8) (by decide) rfl (Or.inl rfl)
theorem ra_146 {i : Int32} : gm_ai (gm_m s) 0 146 i = vp_in i 8 := gm_m_ai (by decide) rfl (Or.inl rfl)
theorem rv_146 {j : Nat} : gm_av (gm_m s) 146 j = s.1 146 j := gm_m_av (t := 0) (n := 8) (by decide) rfl (Or.inl rfl)
theorem rs_146 {j : Nat} {x : Int32} : gm_as (gm_m s) 146 j x = gm_m (gm_si s 146 j x) := gm_m_as (t := 0) (n := 8) (by decide) rfl (Or.inl rfl)
theorem ra_147 {i : Int32} : gm_ai (gm_m s) 0 147 i = vp_in i 8 := gm_m_ai (by decide) rfl (Or.inl rfl)
theorem rv_147 {j : Nat} : gm_av (gm_m s) 147 j = s.1 147 j := gm_m_av (t := 0) (n := 8) (by decide) rfl (Or.inl rfl)
theorem rs_147 {j : Nat} {x : Int32} : gm_as (gm_m s) 147 j x = gm_m (gm_si s 147 j x) := gm_m_as (t := 0) (n := 8) (by decide) rfl (Or.inl rfl)
theorem ra_148 {i : Int32} : gm_ai (gm_m s) 0 148 i = vp_in i 100 := gm_m_ai (by decide) rfl (Or.inl rfl)
theorem rv_148 {j : Nat} : gm_av (gm_m s) 148 j = s.1 148 j := gm_m_av (t := 0) (n := 100) (by decide) rfl (Or.inl rfl)
theorem rs_148 {j : Nat} {x : Int32} : gm_as (gm_m s) 148 j x = gm_m (gm_si s 148 j x) := gm_m_as (t := 0) (n := 100) (by decide) rfl (Or.inl rfl)
theorem ra_149 {i : Int32} : gm_ai (gm_m s) 0 149 i = vp_in i 6 := gm_m_ai (by decide) rfl (Or.inl rfl)
theorem rv_149 {j : Nat} : gm_av (gm_m s) 149 j = s.1 149 j := gm_m_av (t := 0) (n := 6) (by decide) rfl (Or.inl rfl)
theorem rs_149 {j : Nat} {x : Int32} : gm_as (gm_m s) 149 j x = gm_m (gm_si s 149 j x) := gm_m_as (t := 0) (n := 6) (by decide) rfl (Or.inl rfl)
theorem ra_150 {i : Int32} : gm_ai (gm_m s) 0 150 i = vp_in i 60 := gm_m_ai (by decide) rfl (Or.inl rfl)
theorem rv_150 {j : Nat} : gm_av (gm_m s) 150 j = s.1 150 j := gm_m_av (t := 0) (n := 60) (by decide) rfl (Or.inl rfl)
theorem rs_150 {j : Nat} {x : Int32} : gm_as (gm_m s) 150 j x = gm_m (gm_si s 150 j x) := gm_m_as (t := 0) (n := 60) (by decide) rfl (Or.inl rfl)
theorem ra_151 {i : Int32} : gm_ai (gm_m s) 0 151 i = vp_in i 60 := gm_m_ai (by decide) rfl (Or.inl rfl)
theorem rv_151 {j : Nat} : gm_av (gm_m s) 151 j = s.1 151 j := gm_m_av (t := 0) (n := 60) (by decide) rfl (Or.inl rfl)
theorem rs_151 {j : Nat} {x : Int32} : gm_as (gm_m s) 151 j x = gm_m (gm_si s 151 j x) := gm_m_as (t := 0) (n := 60) (by decide) rfl (Or.inl rfl)
theorem ra_152 {i : Int32} : gm_ai (gm_m s) 0 152 i = vp_in i 60 := gm_m_ai (by decide) rfl (Or.inl rfl)
theorem rv_152 {j : Nat} : gm_av (gm_m s) 152 j = s.1 152 j := gm_m_av (t := 0) (n := 60) (by decide) rfl (Or.inl rfl)
theorem rs_152 {j : Nat} {x : Int32} : gm_as (gm_m s) 152 j x = gm_m (gm_si s 152 j x) := gm_m_as (t := 0) (n := 60) (by decide) rfl (Or.inl rfl)
theorem ra_153 {i : Int32} : gm_ai (gm_m s) 0 153 i = vp_in i 60 := gm_m_ai (by decide) rfl (Or.inl rfl)
theorem rv_153 {j : Nat} : gm_av (gm_m s) 153 j = s.1 153 j := gm_m_av (t := 0) (n := 60) (by decide) rfl (Or.inl rfl)
theorem rs_153 {j : Nat} {x : Int32} : gm_as (gm_m s) 153 j x = gm_m (gm_si s 153 j x) := gm_m_as (t := 0) (n := 60) (by decide) rfl (Or.inl rfl)
theorem ra_154 {i : Int32} : gm_ai (gm_m s) 0 154 i = vp_in i 600 := gm_m_ai (by decide) rfl (Or.inl rfl)
theorem rv_154 {j : Nat} : gm_av (gm_m s) 154 j = s.1 154 j := gm_m_av (t := 0) (n := 600) (by decide) rfl (Or.inl rfl)
theorem rs_154 {j : Nat} {x : Int32} : gm_as (gm_m s) 154 j x = gm_m (gm_si s 154 j x) := gm_m_as (t := 0) (n := 600) (by decide) rfl (Or.inl rfl)
theorem ra_155 {i : Int32} : gm_ai (gm_m s) 0 155 i = vp_in i 101 := gm_m_ai (by decide) rfl (Or.inl rfl)
theorem rv_155 {j : Nat} : gm_av (gm_m s) 155 j = s.1 155 j := gm_m_av (t := 0) (n := 101) (by decide) rfl (Or.inl rfl)
theorem rs_155 {j : Nat} {x : Int32} : gm_as (gm_m s) 155 j x = gm_m (gm_si s 155 j x) := gm_m_as (t := 0) (n := 101) (by decide) rfl (Or.inl rfl)
theorem ra_156 {i : Int32} : gm_ai (gm_m s) 0 156 i = vp_in i 18 := gm_m_ai (by decide) rfl (Or.inl rfl)
theorem rv_156 {j : Nat} : gm_av (gm_m s) 156 j = s.1 156 j := gm_m_av (t := 0) (n := 18) (by decide) rfl (Or.inl rfl)
theorem rs_156 {j : Nat} {x : Int32} : gm_as (gm_m s) 156 j x = gm_m (gm_si s 156 j x) := gm_m_as (t := 0) (n := 18) (by decide) rfl (Or.inl rfl)
theorem ra_157 {i : Int32} : gm_ai (gm_m s) 3 157 i = vp_in i 100 := gm_m_ai (by decide) rfl (Or.inr (Or.inr rfl))
theorem rv_157 {j : Nat} : gm_av (gm_m s) 157 j = s.1 157 j := gm_m_av (t := 3) (n := 100) (by decide) rfl (Or.inr (Or.inr rfl))
theorem rs_157 {j : Nat} {x : Int32} : gm_as (gm_m s) 157 j x = gm_m (gm_si s 157 j x) := gm_m_as (t := 3) (n := 100) (by decide) rfl (Or.inr (Or.inr rfl))
theorem ra_158 {i : Int32} : gm_ai (gm_m s) 0 158 i = vp_in i 6 := gm_m_ai (by decide) rfl (Or.inl rfl)
theorem rv_158 {j : Nat} : gm_av (gm_m s) 158 j = s.1 158 j := gm_m_av (t := 0) (n := 6) (by decide) rfl (Or.inl rfl)
theorem rs_158 {j : Nat} {x : Int32} : gm_as (gm_m s) 158 j x = gm_m (gm_si s 158 j x) := gm_m_as (t := 0) (n := 6) (by decide) rfl (Or.inl rfl)
theorem ra_159 {i : Int32} : gm_ai (gm_m s) 0 159 i = vp_in i 8 := gm_m_ai (by decide) rfl (Or.inl rfl)
theorem rv_159 {j : Nat} : gm_av (gm_m s) 159 j = s.1 159 j := gm_m_av (t := 0) (n := 8) (by decide) rfl (Or.inl rfl)
theorem rs_159 {j : Nat} {x : Int32} : gm_as (gm_m s) 159 j x = gm_m (gm_si s 159 j x) := gm_m_as (t := 0) (n := 8) (by decide) rfl (Or.inl rfl)
theorem ra_160 {i : Int32} : gm_ai (gm_m s) 0 160 i = vp_in i 8 := gm_m_ai (by decide) rfl (Or.inl rfl)
theorem rv_160 {j : Nat} : gm_av (gm_m s) 160 j = s.1 160 j := gm_m_av (t := 0) (n := 8) (by decide) rfl (Or.inl rfl)
theorem rs_160 {j : Nat} {x : Int32} : gm_as (gm_m s) 160 j x = gm_m (gm_si s 160 j x) := gm_m_as (t := 0) (n := 8) (by decide) rfl (Or.inl rfl)
theorem ra_161 {i : Int32} : gm_ai (gm_m s) 0 161 i = vp_in i 8 := gm_m_ai (by decide) rfl (Or.inl rfl)
theorem rv_161 {j : Nat} : gm_av (gm_m s) 161 j = s.1 161 j := gm_m_av (t := 0) (n := 8) (by decide) rfl (Or.inl rfl)
theorem rs_161 {j : Nat} {x : Int32} : gm_as (gm_m s) 161 j x = gm_m (gm_si s 161 j x) := gm_m_as (t := 0) (n := 8) (by decide) rfl (Or.inl rfl)
theorem ra_162 {i : Int32} : gm_ai (gm_m s) 0 162 i = vp_in i 8 := gm_m_ai (by decide) rfl (Or.inl rfl)
theorem rv_162 {j : Nat} : gm_av (gm_m s) 162 j = s.1 162 j := gm_m_av (t := 0) (n := 8) (by decide) rfl (Or.inl rfl)
theorem rs_162 {j : Nat} {x : Int32} : gm_as (gm_m s) 162 j x = gm_m (gm_si s 162 j x) := gm_m_as (t := 0) (n := 8) (by decide) rfl (Or.inl rfl)
theorem ra_163 {i : Int32} : gm_ai (gm_m s) 0 163 i = vp_in i 5 := gm_m_ai (by decide) rfl (Or.inl rfl)
theorem rv_163 {j : Nat} : gm_av (gm_m s) 163 j = s.1 163 j := gm_m_av (t := 0) (n := 5) (by decide) rfl (Or.inl rfl)
theorem rs_163 {j : Nat} {x : Int32} : gm_as (gm_m s) 163 j x = gm_m (gm_si s 163 j x) := gm_m_as (t := 0) (n := 5) (by decide) rfl (Or.inl rfl)
theorem ra_164 {i : Int32} : gm_ai (gm_m s) 0 164 i = vp_in i 5 := gm_m_ai (by decide) rfl (Or.inl rfl)
theorem rv_164 {j : Nat} : gm_av (gm_m s) 164 j = s.1 164 j := gm_m_av (t := 0) (n := 5) (by decide) rfl (Or.inl rfl)
theorem rs_164 {j : Nat} {x : Int32} : gm_as (gm_m s) 164 j x = gm_m (gm_si s 164 j x) := gm_m_as (t := 0) (n := 5) (by decide) rfl (Or.inl rfl)
theorem ra_165 {i : Int32} : gm_ai (gm_m s) 0 165 i = vp_in i 5 := gm_m_ai (by decide) rfl (Or.inl rfl)
theorem rv_165 {j : Nat} : gm_av (gm_m s) 165 j = s.1 165 j := gm_m_av (t := 0) (n := 5) (by decide) rfl (Or.inl rfl)
theorem rs_165 {j : Nat} {x : Int32} : gm_as (gm_m s) 165 j x = gm_m (gm_si s 165 j x) := gm_m_as (t := 0) (n := 5) (by decide) rfl (Or.inl rfl)
theorem ra_166 {i : Int32} : gm_ai (gm_m s) 0 166 i = vp_in i 10 := gm_m_ai (by decide) rfl (Or.inl rfl)
theorem rv_166 {j : Nat} : gm_av (gm_m s) 166 j = s.1 166 j := gm_m_av (t := 0) (n := 10) (by decide) rfl (Or.inl rfl)
theorem rs_166 {j : Nat} {x : Int32} : gm_as (gm_m s) 166 j x = gm_m (gm_si s 166 j x) := gm_m_as (t := 0) (n := 10) (by decide) rfl (Or.inl rfl)
theorem ra_167 {i : Int32} : gm_ai (gm_m s) 0 167 i = vp_in i 10 := gm_m_ai (by decide) rfl (Or.inl rfl)
theorem rv_167 {j : Nat} : gm_av (gm_m s) 167 j = s.1 167 j := gm_m_av (t := 0) (n := 10) (by decide) rfl (Or.inl rfl)
theorem rs_167 {j : Nat} {x : Int32} : gm_as (gm_m s) 167 j x = gm_m (gm_si s 167 j x) := gm_m_as (t := 0) (n := 10) (by decide) rfl (Or.inl rfl)
theorem ra_168 {i : Int32} : gm_ai (gm_m s) 0 168 i = vp_in i 8 := gm_m_ai (by decide) rfl (Or.inl rfl)
theorem rv_168 {j : Nat} : gm_av (gm_m s) 168 j = s.1 168 j := gm_m_av (t := 0) (n := 8) (by decide) rfl (Or.inl rfl)
theorem rs_168 {j : Nat} {x : Int32} : gm_as (gm_m s) 168 j x = gm_m (gm_si s 168 j x) := gm_m_as (t := 0) (n := 8) (by decide) rfl (Or.inl rfl)
theorem ra_169 {i : Int32} : gm_ai (gm_m s) 0 169 i = vp_in i 8 := gm_m_ai (by decide) rfl (Or.inl rfl)
theorem rv_169 {j : Nat} : gm_av (gm_m s) 169 j = s.1 169 j := gm_m_av (t := 0) (n := 8) (by decide) rfl (Or.inl rfl)
theorem rs_169 {j : Nat} {x : Int32} : gm_as (gm_m s) 169 j x = gm_m (gm_si s 169 j x) := gm_m_as (t := 0) (n := 8) (by decide) rfl (Or.inl rfl)
theorem ra_170 {i : Int32} : gm_ai (gm_m s) 0 170 i = vp_in i 4 := gm_m_ai (by decide) rfl (Or.inl rfl)
theorem rv_170 {j : Nat} : gm_av (gm_m s) 170 j = s.1 170 j := gm_m_av (t := 0) (n := 4) (by decide) rfl (Or.inl rfl)
theorem rs_170 {j : Nat} {x : Int32} : gm_as (gm_m s) 170 j x = gm_m (gm_si s 170 j x) := gm_m_as (t := 0) (n := 4) (by decide) rfl (Or.inl rfl)
theorem ra_171 {i : Int32} : gm_ai (gm_m s) 0 171 i = vp_in i 6 := gm_m_ai (by decide) rfl (Or.inl rfl)
theorem rv_171 {j : Nat} : gm_av (gm_m s) 171 j = s.1 171 j := gm_m_av (t := 0) (n := 6) (by decide) rfl (Or.inl rfl)
theorem rs_171 {j : Nat} {x : Int32} : gm_as (gm_m s) 171 j x = gm_m (gm_si s 171 j x) := gm_m_as (t := 0) (n := 6) (by decide) rfl (Or.inl rfl)
theorem ra_172 {i : Int32} : gm_ai (gm_m s) 0 172 i = vp_in i 6 := gm_m_ai (by decide) rfl (Or.inl rfl)
theorem rv_172 {j : Nat} : gm_av (gm_m s) 172 j = s.1 172 j := gm_m_av (t := 0) (n := 6) (by decide) rfl (Or.inl rfl)
theorem rs_172 {j : Nat} {x : Int32} : gm_as (gm_m s) 172 j x = gm_m (gm_si s 172 j x) := gm_m_as (t := 0) (n := 6) (by decide) rfl (Or.inl rfl)
theorem ra_173 {i : Int32} : gm_ai (gm_m s) 0 173 i = vp_in i 6 := gm_m_ai (by decide) rfl (Or.inl rfl)
theorem rv_173 {j : Nat} : gm_av (gm_m s) 173 j = s.1 173 j := gm_m_av (t := 0) (n := 6) (by decide) rfl (Or.inl rfl)
theorem rs_173 {j : Nat} {x : Int32} : gm_as (gm_m s) 173 j x = gm_m (gm_si s 173 j x) := gm_m_as (t := 0) (n := 6) (by decide) rfl (Or.inl rfl)
theorem ra_174 {i : Int32} : gm_ai (gm_m s) 0 174 i = vp_in i 24 := gm_m_ai (by decide) rfl (Or.inl rfl)
theorem rv_174 {j : Nat} : gm_av (gm_m s) 174 j = s.1 174 j := gm_m_av (t := 0) (n := 24) (by decide) rfl (Or.inl rfl)
theorem rs_174 {j : Nat} {x : Int32} : gm_as (gm_m s) 174 j x = gm_m (gm_si s 174 j x) := gm_m_as (t := 0) (n := 24) (by decide) rfl (Or.inl rfl)
theorem ra_175 {i : Int32} : gm_ai (gm_m s) 0 175 i = vp_in i 8 := gm_m_ai (by decide) rfl (Or.inl rfl)
theorem rv_175 {j : Nat} : gm_av (gm_m s) 175 j = s.1 175 j := gm_m_av (t := 0) (n := 8) (by decide) rfl (Or.inl rfl)
theorem rs_175 {j : Nat} {x : Int32} : gm_as (gm_m s) 175 j x = gm_m (gm_si s 175 j x) := gm_m_as (t := 0) (n := 8) (by decide) rfl (Or.inl rfl)
theorem ra_176 {i : Int32} : gm_ai (gm_m s) 0 176 i = vp_in i 8 := gm_m_ai (by decide) rfl (Or.inl rfl)
theorem rv_176 {j : Nat} : gm_av (gm_m s) 176 j = s.1 176 j := gm_m_av (t := 0) (n := 8) (by decide) rfl (Or.inl rfl)
theorem rs_176 {j : Nat} {x : Int32} : gm_as (gm_m s) 176 j x = gm_m (gm_si s 176 j x) := gm_m_as (t := 0) (n := 8) (by decide) rfl (Or.inl rfl)
theorem ra_177 {i : Int32} : gm_ai (gm_m s) 0 177 i = vp_in i 8 := gm_m_ai (by decide) rfl (Or.inl rfl)
theorem rv_177 {j : Nat} : gm_av (gm_m s) 177 j = s.1 177 j := gm_m_av (t := 0) (n := 8) (by decide) rfl (Or.inl rfl)
theorem rs_177 {j : Nat} {x : Int32} : gm_as (gm_m s) 177 j x = gm_m (gm_si s 177 j x) := gm_m_as (t := 0) (n := 8) (by decide) rfl (Or.inl rfl)
theorem ra_178 {i : Int32} : gm_ai (gm_m s) 0 178 i = vp_in i 8 := gm_m_ai (by decide) rfl (Or.inl rfl)
theorem rv_178 {j : Nat} : gm_av (gm_m s) 178 j = s.1 178 j := gm_m_av (t := 0) (n := 8) (by decide) rfl (Or.inl rfl)
theorem rs_178 {j : Nat} {x : Int32} : gm_as (gm_m s) 178 j x = gm_m (gm_si s 178 j x) := gm_m_as (t := 0) (n := 8) (by decide) rfl (Or.inl rfl)
theorem ra_179 {i : Int32} : gm_ai (gm_m s) 0 179 i = vp_in i 8 := gm_m_ai (by decide) rfl (Or.inl rfl)
theorem rv_179 {j : Nat} : gm_av (gm_m s) 179 j = s.1 179 j := gm_m_av (t := 0) (n := 8) (by decide) rfl (Or.inl rfl)
theorem rs_179 {j : Nat} {x : Int32} : gm_as (gm_m s) 179 j x = gm_m (gm_si s 179 j x) := gm_m_as (t := 0) (n := 8) (by decide) rfl (Or.inl rfl)
theorem ra_180 {i : Int32} : gm_ai (gm_m s) 0 180 i = vp_in i 5 := gm_m_ai (by decide) rfl (Or.inl rfl)
theorem rv_180 {j : Nat} : gm_av (gm_m s) 180 j = s.1 180 j := gm_m_av (t := 0) (n := 5) (by decide) rfl (Or.inl rfl)
theorem rs_180 {j : Nat} {x : Int32} : gm_as (gm_m s) 180 j x = gm_m (gm_si s 180 j x) := gm_m_as (t := 0) (n := 5) (by decide) rfl (Or.inl rfl)
theorem ra_181 {i : Int32} : gm_ai (gm_m s) 0 181 i = vp_in i 5 := gm_m_ai (by decide) rfl (Or.inl rfl)
theorem rv_181 {j : Nat} : gm_av (gm_m s) 181 j = s.1 181 j := gm_m_av (t := 0) (n := 5) (by decide) rfl (Or.inl rfl)
theorem rs_181 {j : Nat} {x : Int32} : gm_as (gm_m s) 181 j x = gm_m (gm_si s 181 j x) := gm_m_as (t := 0) (n := 5) (by decide) rfl (Or.inl rfl)
theorem ra_182 {i : Int32} : gm_ai (gm_m s) 0 182 i = vp_in i 5 := gm_m_ai (by decide) rfl (Or.inl rfl)
theorem rv_182 {j : Nat} : gm_av (gm_m s) 182 j = s.1 182 j := gm_m_av (t := 0) (n := 5) (by decide) rfl (Or.inl rfl)
theorem rs_182 {j : Nat} {x : Int32} : gm_as (gm_m s) 182 j x = gm_m (gm_si s 182 j x) := gm_m_as (t := 0) (n := 5) (by decide) rfl (Or.inl rfl)
theorem ra_183 {i : Int32} : gm_ai (gm_m s) 0 183 i = vp_in i 10 := gm_m_ai (by decide) rfl (Or.inl rfl)
theorem rv_183 {j : Nat} : gm_av (gm_m s) 183 j = s.1 183 j := gm_m_av (t := 0) (n := 10) (by decide) rfl (Or.inl rfl)
theorem rs_183 {j : Nat} {x : Int32} : gm_as (gm_m s) 183 j x = gm_m (gm_si s 183 j x) := gm_m_as (t := 0) (n := 10) (by decide) rfl (Or.inl rfl)
theorem ra_184 {i : Int32} : gm_ai (gm_m s) 0 184 i = vp_in i 10 := gm_m_ai (by decide) rfl (Or.inl rfl)
theorem rv_184 {j : Nat} : gm_av (gm_m s) 184 j = s.1 184 j := gm_m_av (t := 0) (n := 10) (by decide) rfl (Or.inl rfl)
theorem rs_184 {j : Nat} {x : Int32} : gm_as (gm_m s) 184 j x = gm_m (gm_si s 184 j x) := gm_m_as (t := 0) (n := 10) (by decide) rfl (Or.inl rfl)
theorem ra_185 {i : Int32} : gm_ai (gm_m s) 0 185 i = vp_in i 8 := gm_m_ai (by decide) rfl (Or.inl rfl)
theorem rv_185 {j : Nat} : gm_av (gm_m s) 185 j = s.1 185 j := gm_m_av (t := 0) (n := 8) (by decide) rfl (Or.inl rfl)
theorem rs_185 {j : Nat} {x : Int32} : gm_as (gm_m s) 185 j x = gm_m (gm_si s 185 j x) := gm_m_as (t := 0) (n := 8) (by decide) rfl (Or.inl rfl)
theorem ra_186 {i : Int32} : gm_ai (gm_m s) 0 186 i = vp_in i 8 := gm_m_ai (by decide) rfl (Or.inl rfl)
theorem rv_186 {j : Nat} : gm_av (gm_m s) 186 j = s.1 186 j := gm_m_av (t := 0) (n := 8) (by decide) rfl (Or.inl rfl)
theorem rs_186 {j : Nat} {x : Int32} : gm_as (gm_m s) 186 j x = gm_m (gm_si s 186 j x) := gm_m_as (t := 0) (n := 8) (by decide) rfl (Or.inl rfl)
theorem ra_187 {i : Int32} : gm_ai (gm_m s) 0 187 i = vp_in i 20 := gm_m_ai (by decide) rfl (Or.inl rfl)
theorem rv_187 {j : Nat} : gm_av (gm_m s) 187 j = s.1 187 j := gm_m_av (t := 0) (n := 20) (by decide) rfl (Or.inl rfl)
theorem rs_187 {j : Nat} {x : Int32} : gm_as (gm_m s) 187 j x = gm_m (gm_si s 187 j x) := gm_m_as (t := 0) (n := 20) (by decide) rfl (Or.inl rfl)
theorem ra_188 {i : Int32} : gm_ai (gm_m s) 0 188 i = vp_in i 6 := gm_m_ai (by decide) rfl (Or.inl rfl)
theorem rv_188 {j : Nat} : gm_av (gm_m s) 188 j = s.1 188 j := gm_m_av (t := 0) (n := 6) (by decide) rfl (Or.inl rfl)
theorem rs_188 {j : Nat} {x : Int32} : gm_as (gm_m s) 188 j x = gm_m (gm_si s 188 j x) := gm_m_as (t := 0) (n := 6) (by decide) rfl (Or.inl rfl)
theorem ra_189 {i : Int32} : gm_ai (gm_m s) 0 189 i = vp_in i 6 := gm_m_ai (by decide) rfl (Or.inl rfl)
theorem rv_189 {j : Nat} : gm_av (gm_m s) 189 j = s.1 189 j := gm_m_av (t := 0) (n := 6) (by decide) rfl (Or.inl rfl)
theorem rs_189 {j : Nat} {x : Int32} : gm_as (gm_m s) 189 j x = gm_m (gm_si s 189 j x) := gm_m_as (t := 0) (n := 6) (by decide) rfl (Or.inl rfl)
theorem ra_190 {i : Int32} : gm_li (gm_m s) 190 i = vp_in i 360 := gm_m_li (by decide) rfl
theorem rv_190 {j : Nat} : gm_lv (gm_m s) 190 j = s.2.2 190 j := gm_m_lv (n := 360) (by decide) rfl
theorem rs_190 {j : Nat} {x : Int64} : gm_ls (gm_m s) 190 j x = gm_m (gm_sl s 190 j x) := gm_m_ls (n := 360) (by decide) rfl
theorem ra_191 {i : Int32} : gm_li (gm_m s) 191 i = vp_in i 60 := gm_m_li (by decide) rfl
theorem rv_191 {j : Nat} : gm_lv (gm_m s) 191 j = s.2.2 191 j := gm_m_lv (n := 60) (by decide) rfl
theorem rs_191 {j : Nat} {x : Int64} : gm_ls (gm_m s) 191 j x = gm_m (gm_sl s 191 j x) := gm_m_ls (n := 60) (by decide) rfl
end
