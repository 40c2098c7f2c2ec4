/-! reads and writes of single cells, the yards -/
section
variable {s : gm_S}
theorem rk_83 {k : Nat} (hk : k < 16) : gm_gok (gm_m s) [10] 83 k = true := gm_m_gok (ci := 10) (by decide) rfl hk rfl
theorem rc_83 : gm_cl (gm_m s) 83 10 = true := gm_m_cl (ci := 10) (by decide) rfl
theorem rg_83_0 : gm_gv (gm_m s) 83 0 = .ref 64 := Eq.trans rfl rfl
theorem rg_83_1 : gm_gv (gm_m s) 83 1 = va_rf (s.2.1 83 1) := Eq.trans rfl rfl
theorem rp_83_1 {r : Nat} : gm_ps (gm_m s) 83 1 (.ref r) = gm_m (gm_sr s 83 1 (some r)) := gm_m_psr (ci := 10) (by decide) rfl rfl
theorem rpn_83_1 : gm_ps (gm_m s) 83 1 .null = gm_m (gm_sr s 83 1 none) := gm_m_psn (ci := 10) (by decide) rfl rfl
theorem rg_83_2 : gm_gv (gm_m s) 83 2 = .int (s.1 83 2) := Eq.trans rfl rfl
theorem rp_83_2 {x : Int32} : gm_ps (gm_m s) 83 2 (.int x) = gm_m (gm_si s 83 2 x) := gm_m_psi (ci := 10) (by decide) rfl rfl
theorem rg_83_3 : gm_gv (gm_m s) 83 3 = .ref 84 := Eq.trans rfl rfl
theorem rg_83_4 : gm_gv (gm_m s) 83 4 = .int (s.1 83 4) := Eq.trans rfl rfl
theorem rp_83_4 {x : Int32} : gm_ps (gm_m s) 83 4 (.int x) = gm_m (gm_si s 83 4 x) := gm_m_psi (ci := 10) (by decide) rfl rfl
theorem rg_83_5 : gm_gv (gm_m s) 83 5 = .ref 85 := Eq.trans rfl rfl
theorem rg_83_6 : gm_gv (gm_m s) 83 6 = .ref 86 := Eq.trans rfl rfl
theorem rg_83_7 : gm_gv (gm_m s) 83 7 = .ref 87 := Eq.trans rfl rfl
theorem rg_83_8 : gm_gv (gm_m s) 83 8 = .ref 88 := Eq.trans rfl rfl
theorem rg_83_9 : gm_gv (gm_m s) 83 9 = .int (s.1 83 9) := Eq.trans rfl rfl
theorem rp_83_9 {x : Int32} : gm_ps (gm_m s) 83 9 (.int x) = gm_m (gm_si s 83 9 x) := gm_m_psi (ci := 10) (by decide) rfl rfl
theorem rg_83_10 : gm_gv (gm_m s) 83 10 = .ref 95 := Eq.trans rfl rfl
theorem rg_83_11 : gm_gv (gm_m s) 83 11 = .ref 96 := Eq.trans rfl rfl
theorem rg_83_12 : gm_gv (gm_m s) 83 12 = .ref 97 := Eq.trans rfl rfl
theorem rg_83_13 : gm_gv (gm_m s) 83 13 = .ref 98 := Eq.trans rfl rfl
theorem rg_83_14 : gm_gv (gm_m s) 83 14 = .ref 99 := Eq.trans rfl rfl
theorem rg_83_15 : gm_gv (gm_m s) 83 15 = .ref 100 := Eq.trans rfl rfl
theorem ra_84 {i : Int32} : gm_ai (gm_m s) 0 84 i = vp_in i 4 := gm_m_ai (by decide) rfl (Or.inl rfl)
theorem rv_84 {j : Nat} : gm_av (gm_m s) 84 j = s.1 84 j := gm_m_av (t := 0) (n := 4) (by decide) rfl (Or.inl rfl)
theorem rs_84 {j : Nat} {x : Int32} : gm_as (gm_m s) 84 j x = gm_m (gm_si s 84 j x) := gm_m_as (t := 0) (n := 4) (by decide) rfl (Or.inl rfl)
theorem ra_85 {i : Int32} : gm_ai (gm_m s) 0 85 i = vp_in i 6 := gm_m_ai (by decide) rfl (Or.inl rfl)
theorem rv_85 {j : Nat} : gm_av (gm_m s) 85 j = s.1 85 j := gm_m_av (t := 0) (n := 6) (by decide) rfl (Or.inl rfl)
theorem rs_85 {j : Nat} {x : Int32} : gm_as (gm_m s) 85 j x = gm_m (gm_si s 85 j x) := gm_m_as (t := 0) (n := 6) (by decide) rfl (Or.inl rfl)
theorem ra_86 {i : Int32} : gm_ai (gm_m s) 0 86 i = vp_in i 6 := gm_m_ai (by decide) rfl (Or.inl rfl)
theorem rv_86 {j : Nat} : gm_av (gm_m s) 86 j = s.1 86 j := gm_m_av (t := 0) (n := 6) (by decide) rfl (Or.inl rfl)
theorem rs_86 {j : Nat} {x : Int32} : gm_as (gm_m s) 86 j x = gm_m (gm_si s 86 j x) := gm_m_as (t := 0) (n := 6) (by decide) rfl (Or.inl rfl)
theorem ra_87 {i : Int32} : gm_ai (gm_m s) 0 87 i = vp_in i 6 := gm_m_ai (by decide) rfl (Or.inl rfl)
theorem rv_87 {j : Nat} : gm_av (gm_m s) 87 j = s.1 87 j := gm_m_av (t := 0) (n := 6) (by decide) rfl (Or.inl rfl)
theorem rs_87 {j : Nat} {x : Int32} : gm_as (gm_m s) 87 j x = gm_m (gm_si s 87 j x) := gm_m_as (t := 0) (n := 6) (by decide) rfl (Or.inl rfl)
theorem ra_89 {i : Int32} : gm_ai (gm_m s) 0 89 i = vp_in i 4 := gm_m_ai (by decide) rfl (Or.inl rfl)
theorem rv_89 {j : Nat} : gm_av (gm_m s) 89 j = s.1 89 j := gm_m_av (t := 0) (n := 4) (by decide) rfl (Or.inl rfl)
theorem rs_89 {j : Nat} {x : Int32} : gm_as (gm_m s) 89 j x = gm_m (gm_si s 89 j x) := gm_m_as (t := 0) (n := 4) (by decide) rfl (Or.inl rfl)
theorem ra_90 {i : Int32} : gm_ai (gm_m s) 0 90 i = vp_in i 4 := gm_m_ai (by decide) rfl (Or.inl rfl)
theorem rv_90 {j : Nat} : gm_av (gm_m s) 90 j = s.1 90 j := gm_m_av (t := 0) (n := 4) (by decide) rfl (Or.inl rfl)
theorem rs_90 {j : Nat} {x : Int32} : gm_as (gm_m s) 90 j x = gm_m (gm_si s 90 j x) := gm_m_as (t := 0) (n := 4) (by decide) rfl (Or.inl rfl)
theorem ra_91 {i : Int32} : gm_ai (gm_m s) 0 91 i = vp_in i 4 := gm_m_ai (by decide) rfl (Or.inl rfl)
theorem rv_91 {j : Nat} : gm_av (gm_m s) 91 j = s.1 91 j := gm_m_av (t := 0) (n := 4) (by decide) rfl (Or.inl rfl)
theorem rs_91 {j : Nat} {x : Int32} : gm_as (gm_m s) 91 j x = gm_m (gm_si s 91 j x) := gm_m_as (t := 0) (n := 4) (by decide) rfl (Or.inl rfl)
theorem ra_92 {i : Int32} : gm_ai (gm_m s) 0 92 i = vp_in i 4 := gm_m_ai (by decide) rfl (Or.inl rfl)
theorem rv_92 {j : Nat} : gm_av (gm_m s) 92 j = s.1 92 j := gm_m_av (t := 0) (n := 4) (by decide) rfl (Or.inl rfl)
theorem rs_92 {j : Nat} {x : Int32} : gm_as (gm_m s) 92 j x = gm_m (gm_si s 92 j x) := gm_m_as (t := 0) (n := 4) (by decide) rfl (Or.inl rfl)
theorem ra_93 {i : Int32} : gm_ai (gm_m s) 0 93 i = vp_in i 4 := gm_m_ai (by decide) rfl (Or.inl rfl)
theorem rv_93 {j : Nat} : gm_av (gm_m s) 93 j = s.1 93 j := gm_m_av (t := 0) (n := 4) (by decide) rfl (Or.inl rfl)
theorem rs_93 {j : Nat} {x : Int32} : gm_as (gm_m s) 93 j x = gm_m (gm_si s 93 j x) := gm_m_as (t := 0) (n := 4) (by decide) rfl (Or.inl rfl)
theorem ra_94 {i : Int32} : gm_ai (gm_m s) 0 94 i = vp_in i 4 := gm_m_ai (by decide) rfl (Or.inl rfl)
theorem rv_94 {j : Nat} : gm_av (gm_m s) 94 j = s.1 94 j := gm_m_av (t := 0) (n := 4) (by decide) rfl (Or.inl rfl)
theorem rs_94 {j : Nat} {x : Int32} : gm_as (gm_m s) 94 j x = gm_m (gm_si s 94 j x) := gm_m_as (t := 0) (n := 4) (by decide) rfl (Or.inl rfl)
theorem ra_95 {i : Int32} : gm_ai (gm_m s) 0 95 i = vp_in i 8 := gm_m_ai (by decide) rfl (Or.inl rfl)
theorem rv_95 {j : Nat} : gm_av (gm_m s) 95 j = s.1 95 j := gm_m_av (t := 0) (n := 8) (by decide) rfl (Or.inl rfl)
theorem rs_95 {j : Nat} {x : Int32} : gm_as (gm_m s) 95 j x = gm_m (gm_si s 95 j x) := gm_m_as (t := 0) (n := 8) (by decide) rfl (Or.inl rfl)
theorem ra_96 {i : Int32} : gm_ai (gm_m s) 0 96 i = vp_in i 8 := gm_m_ai (by decide) rfl (Or.inl rfl)
theorem rv_96 {j : Nat} : gm_av (gm_m s) 96 j = s.1 96 j := gm_m_av (t := 0) (n := 8) (by decide) rfl (Or.inl rfl)
theorem rs_96 {j : Nat} {x : Int32} : gm_as (gm_m s) 96 j x = gm_m (gm_si s 96 j x) := gm_m_as (t := 0) (n := 8) (by decide) rfl (Or.inl rfl)
theorem ra_97 {i : Int32} : gm_ai (gm_m s) 0 97 i = vp_in i 8 := gm_m_ai (by decide) rfl (Or.inl rfl)
theorem rv_97 {j : Nat} : gm_av (gm_m s) 97 j = s.1 97 j := gm_m_av (t := 0) (n := 8) (by decide) rfl (Or.inl rfl)
theorem rs_97 {j : Nat} {x : Int32} : gm_as (gm_m s) 97 j x = gm_m (gm_si s 97 j x) := gm_m_as (t := 0) (n := 8) (by decide) rfl (Or.inl rfl)
theorem ra_98 {i : Int32} : gm_ai (gm_m s) 0 98 i = vp_in i 8 := gm_m_ai (by decide) rfl (Or.inl rfl)
theorem rv_98 {j : Nat} : gm_av (gm_m s) 98 j = s.1 98 j := gm_m_av (t := 0) (n := 8) (by decide) rfl (Or.inl rfl)
theorem rs_98 {j : Nat} {x : Int32} : gm_as (gm_m s) 98 j x = gm_m (gm_si s 98 j x) := gm_m_as (t := 0) (n := 8) (by decide) rfl (Or.inl rfl)
theorem ra_99 {i : Int32} : gm_ai (gm_m s) 0 99 i = vp_in i 8 := gm_m_ai (by decide) rfl (Or.inl rfl)
theorem rv_99 {j : Nat} : gm_av (gm_m s) 99 j = s.1 99 j := gm_m_av (t := 0) (n := 8) (by decide) rfl (Or.inl rfl)
theorem rs_99 {j : Nat} {x : Int32} : gm_as (gm_m s) 99 j x = gm_m (gm_si s 99 j x) := gm_m_as (t := 0) (n := 8) (by decide) rfl (Or.inl rfl)
theorem ra_100 {i : Int32} : gm_ai (gm_m s) 0 100 i = vp_in i 6 := gm_m_ai (by decide) rfl (Or.inl rfl)
theorem rv_100 {j : Nat} : gm_av (gm_m s) 100 j = s.1 100 j := gm_m_av (t := 0) (n := 6) (by decide) rfl (Or.inl rfl)
theorem rs_100 {j : Nat} {x : Int32} : gm_as (gm_m s) 100 j x = gm_m (gm_si s 100 j x) := gm_m_as (t := 0) (n := 6) (by decide) rfl (Or.inl rfl)
theorem rk_101 {k : Nat} (hk : k < 16) : gm_gok (gm_m s) [10] 101 k = true := gm_m_gok (ci := 10) (by decide) rfl hk rfl
theorem rc_101 : gm_cl (gm_m s) 101 10 = true := gm_m_cl (ci := 10) (by decide) rfl
theorem rg_101_0 : gm_gv (gm_m s) 101 0 = .ref 64 := Eq.trans rfl rfl
theorem rg_101_1 : gm_gv (gm_m s) 101 1 = va_rf (s.2.1 101 1) := Eq.trans rfl rfl
theorem rp_101_1 {r : Nat} : gm_ps (gm_m s) 101 1 (.ref r) = gm_m (gm_sr s 101 1 (some r)) := gm_m_psr (ci := 10) (by decide) rfl rfl
theorem rpn_101_1 : gm_ps (gm_m s) 101 1 .null = gm_m (gm_sr s 101 1 none) := gm_m_psn (ci := 10) (by decide) rfl rfl
theorem rg_101_2 : gm_gv (gm_m s) 101 2 = .int (s.1 101 2) := Eq.trans rfl rfl
theorem rp_101_2 {x : Int32} : gm_ps (gm_m s) 101 2 (.int x) = gm_m (gm_si s 101 2 x) := gm_m_psi (ci := 10) (by decide) rfl rfl
theorem rg_101_3 : gm_gv (gm_m s) 101 3 = .ref 102 := Eq.trans rfl rfl
theorem rg_101_4 : gm_gv (gm_m s) 101 4 = .int (s.1 101 4) := Eq.trans rfl rfl
theorem rp_101_4 {x : Int32} : gm_ps (gm_m s) 101 4 (.int x) = gm_m (gm_si s 101 4 x) := gm_m_psi (ci := 10) (by decide) rfl rfl
theorem rg_101_5 : gm_gv (gm_m s) 101 5 = .ref 103 := Eq.trans rfl rfl
theorem rg_101_6 : gm_gv (gm_m s) 101 6 = .ref 104 := Eq.trans rfl rfl
theorem rg_101_7 : gm_gv (gm_m s) 101 7 = .ref 105 := Eq.trans rfl rfl
theorem rg_101_8 : gm_gv (gm_m s) 101 8 = .ref 106 := Eq.trans rfl rfl
theorem rg_101_9 : gm_gv (gm_m s) 101 9 = .int (s.1 101 9) := Eq.trans rfl rfl
theorem rp_101_9 {x : Int32} : gm_ps (gm_m s) 101 9 (.int x) = gm_m (gm_si s 101 9 x) := gm_m_psi (ci := 10) (by decide) rfl rfl
theorem rg_101_10 : gm_gv (gm_m s) 101 10 = .ref 113 := Eq.trans rfl rfl
theorem rg_101_11 : gm_gv (gm_m s) 101 11 = .ref 114 := Eq.trans rfl rfl
theorem rg_101_12 : gm_gv (gm_m s) 101 12 = .ref 115 := Eq.trans rfl rfl
theorem rg_101_13 : gm_gv (gm_m s) 101 13 = .ref 116 := Eq.trans rfl rfl
theorem rg_101_14 : gm_gv (gm_m s) 101 14 = .ref 117 := Eq.trans rfl rfl
theorem rg_101_15 : gm_gv (gm_m s) 101 15 = .ref 118 := Eq.trans rfl rfl
theorem ra_102 {i : Int32} : gm_ai (gm_m s) 0 102 i = vp_in i 4 := gm_m_ai (by decide) rfl (Or.inl rfl)
theorem rv_102 {j : Nat} : gm_av (gm_m s) 102 j = s.1 102 j := gm_m_av (t := 0) (n := 4) (by decide) rfl (Or.inl rfl)
theorem rs_102 {j : Nat} {x : Int32} : gm_as (gm_m s) 102 j x = gm_m (gm_si s 102 j x) := gm_m_as (t := 0) (n := 4) (by decide) rfl (Or.inl rfl)
theorem ra_103 {i : Int32} : gm_ai (gm_m s) 0 103 i = vp_in i 6 := gm_m_ai (by decide) rfl (Or.inl rfl)
theorem rv_103 {j : Nat} : gm_av (gm_m s) 103 j = s.1 103 j := gm_m_av (t := 0) (n := 6) (by decide) rfl (Or.inl rfl)
theorem rs_103 {j : Nat} {x : Int32} : gm_as (gm_m s) 103 j x = gm_m (gm_si s 103 j x) := gm_m_as (t := 0) (n := 6) (by decide) rfl (Or.inl rfl)
theorem ra_104 {i : Int32} : gm_ai (gm_m s) 0 104 i = vp_in i 6 := gm_m_ai (by decide) rfl (Or.inl rfl)
theorem rv_104 {j : Nat} : gm_av (gm_m s) 104 j = s.1 104 j := gm_m_av (t := 0) (n := 6) (by decide) rfl (Or.inl rfl)
theorem rs_104 {j : Nat} {x : Int32} : gm_as (gm_m s) 104 j x = gm_m (gm_si s 104 j x) := gm_m_as (t := 0) (n := 6) (by decide) rfl (Or.inl rfl)
theorem ra_105 {i : Int32} : gm_ai (gm_m s) 0 105 i = vp_in i 6 := gm_m_ai (by decide) rfl (Or.inl rfl)
theorem rv_105 {j : Nat} : gm_av (gm_m s) 105 j = s.1 105 j := gm_m_av (t := 0) (n := 6) (by decide) rfl (Or.inl rfl)
theorem rs_105 {j : Nat} {x : Int32} : gm_as (gm_m s) 105 j x = gm_m (gm_si s 105 j x) := gm_m_as (t := 0) (n := 6) (by decide) rfl (Or.inl rfl)
theorem ra_107 {i : Int32} : gm_ai (gm_m s) 0 107 i = vp_in i 4 := gm_m_ai (by decide) rfl (Or.inl rfl)
theorem rv_107 {j : Nat} : gm_av (gm_m s) 107 j = s.1 107 j := gm_m_av (t := 0) (n := 4) (by decide) rfl (Or.inl rfl)
theorem rs_107 {j : Nat} {x : Int32} : gm_as (gm_m s) 107 j x = gm_m (gm_si s 107 j x) := gm_m_as (t := 0) (n := 4) (by decide) rfl (Or.inl rfl)
theorem ra_108 {i : Int32} : gm_ai (gm_m s) 0 108 i = vp_in i 4 := gm_m_ai (by decide) rfl (Or.inl rfl)
theorem rv_108 {j : Nat} : gm_av (gm_m s) 108 j = s.1 108 j := gm_m_av (t := 0) (n := 4) (by decide) rfl (Or.inl rfl)
theorem rs_108 {j : Nat} {x : Int32} : gm_as (gm_m s) 108 j x = gm_m (gm_si s 108 j x) := gm_m_as (t := 0) (n := 4) (by decide) rfl (Or.inl rfl)
theorem ra_109 {i : Int32} : gm_ai (gm_m s) 0 109 i = vp_in i 4 := gm_m_ai (by decide) rfl (Or.inl rfl)
theorem rv_109 {j : Nat} : gm_av (gm_m s) 109 j = s.1 109 j := gm_m_av (t := 0) (n := 4) (by decide) rfl (Or.inl rfl)
theorem rs_109 {j : Nat} {x : Int32} : gm_as (gm_m s) 109 j x = gm_m (gm_si s 109 j x) := gm_m_as (t := 0) (n := 4) (by decide) rfl (Or.inl rfl)
theorem ra_110 {i : Int32} : gm_ai (gm_m s) 0 110 i = vp_in i 4 := gm_m_ai (by decide) rfl (Or.inl rfl)
theorem rv_110 {j : Nat} : gm_av (gm_m s) 110 j = s.1 110 j := gm_m_av (t := 0) (n := 4) (by decide) rfl (Or.inl rfl)
theorem rs_110 {j : Nat} {x : Int32} : gm_as (gm_m s) 110 j x = gm_m (gm_si s 110 j x) := gm_m_as (t := 0) (n := 4) (by decide) rfl (Or.inl rfl)
theorem ra_111 {i : Int32} : gm_ai (gm_m s) 0 111 i = vp_in i 4 := gm_m_ai (by decide) rfl (Or.inl rfl)
theorem rv_111 {j : Nat} : gm_av (gm_m s) 111 j = s.1 111 j := gm_m_av (t := 0) (n := 4) (by decide) rfl (Or.inl rfl)
theorem rs_111 {j : Nat} {x : Int32} : gm_as (gm_m s) 111 j x = gm_m (gm_si s 111 j x) := gm_m_as (t := 0) (n := 4) (by decide) rfl (Or.inl rfl)
theorem ra_112 {i : Int32} : gm_ai (gm_m s) 0 112 i = vp_in i 4 := gm_m_ai (by decide) rfl (Or.inl rfl)
theorem rv_112 {j : Nat} : gm_av (gm_m s) 112 j = s.1 112 j := gm_m_av (t := 0) (n := 4) (by decide) rfl (Or.inl rfl)
theorem rs_112 {j : Nat} {x : Int32} : gm_as (gm_m s) 112 j x = gm_m (gm_si s 112 j x) := gm_m_as (t := 0) (n := 4) (by decide) rfl (Or.inl rfl)
theorem ra_113 {i : Int32} : gm_ai (gm_m s) 0 113 i = vp_in i 8 := gm_m_ai (by decide) rfl (Or.inl rfl)
theorem rv_113 {j : Nat} : gm_av (gm_m s) 113 j = s.1 113 j := gm_m_av (t := 0) (n := 8) (by decide) rfl (Or.inl rfl)
theorem rs_113 {j : Nat} {x : Int32} : gm_as (gm_m s) 113 j x = gm_m (gm_si s 113 j x) := gm_m_as (t := 0) (n := 8) (by decide) rfl (Or.inl rfl)
theorem ra_114 {i : Int32} : gm_ai (gm_m s) 0 114 i = vp_in i 8 := gm_m_ai (by decide) rfl (Or.inl rfl)
theorem rv_114 {j : Nat} : gm_av (gm_m s) 114 j = s.1 114 j := gm_m_av (t := 0) (n := 8) (by decide) rfl (Or.inl rfl)
theorem rs_114 {j : Nat} {x : Int32} : gm_as (gm_m s) 114 j x = gm_m (gm_si s 114 j x) := gm_m_as (t := 0) (n := 8) (by decide) rfl (Or.inl rfl)
theorem ra_115 {i : Int32} : gm_ai (gm_m s) 0 115 i = vp_in i 8 := gm_m_ai (by decide) rfl (Or.inl rfl)
theorem rv_115 {j : Nat} : gm_av (gm_m s) 115 j = s.1 115 j := gm_m_av (t := 0) (n := 8) (by decide) rfl (Or.inl rfl)
theorem rs_115 {j : Nat} {x : Int32} : gm_as (gm_m s) 115 j x = gm_m (gm_si s 115 j x) := gm_m_as (t := 0) (n := 8) (by decide) rfl (Or.inl rfl)
theorem ra_116 {i : Int32} : gm_ai (gm_m s) 0 116 i = vp_in i 8 := gm_m_ai (by decide) rfl (Or.inl rfl)
theorem rv_116 {j : Nat} : gm_av (gm_m s) 116 j = s.1 116 j := gm_m_av (t := 0) (n := 8) (by decide) rfl (Or.inl rfl)
theorem rs_116 {j : Nat} {x : Int32} : gm_as (gm_m s) 116 j x = gm_m (gm_si s 116 j x) := gm_m_as (t := 0) (n := 8) (by decide) rfl (Or.inl rfl)
theorem ra_117 {i : Int32} : gm_ai (gm_m s) 0 117 i = vp_in i 8 := gm_m_ai (by decide) rfl (Or.inl rfl)
theorem rv_117 {j : Nat} : gm_av (gm_m s) 117 j = s.1 117 j := gm_m_av (t := 0) (n := 8) (by decide) rfl (Or.inl rfl)
theorem rs_117 {j : Nat} {x : Int32} : gm_as (gm_m s) 117 j x = gm_m (gm_si s 117 j x) := gm_m_as (t := 0) (n := 8) (by decide) rfl (Or.inl rfl)
theorem ra_118 {i : Int32} : gm_ai (gm_m s) 0 118 i = vp_in i 6 := gm_m_ai (by decide) rfl (Or.inl rfl)
theorem rv_118 {j : Nat} : gm_av (gm_m s) 118 j = s.1 118 j := gm_m_av (t := 0) (n := 6) (by decide) rfl (Or.inl rfl)
theorem rs_118 {j : Nat} {x : Int32} : gm_as (gm_m s) 118 j x = gm_m (gm_si s 118 j x) := gm_m_as (t := 0) (n := 6) (by decide) rfl (Or.inl rfl)
theorem rk_119 {k : Nat} (hk : k < 16) : gm_gok (gm_m s) [10] 119 k = true := gm_m_gok (ci := 10) (by decide) rfl hk rfl
theorem rc_119 : gm_cl (gm_m s) 119 10 = true := gm_m_cl (ci := 10) (by decide) rfl
theorem rg_119_0 : gm_gv (gm_m s) 119 0 = .ref 64 := Eq.trans rfl rfl
theorem rg_119_1 : gm_gv (gm_m s) 119 1 = va_rf (s.2.1 119 1) := Eq.trans rfl rfl
theorem rp_119_1 {r : Nat} : gm_ps (gm_m s) 119 1 (.ref r) = gm_m (gm_sr s 119 1 (some r)) := gm_m_psr (ci := 10) (by decide) rfl rfl
theorem rpn_119_1 : gm_ps (gm_m s) 119 1 .null = gm_m (gm_sr s 119 1 none) := gm_m_psn (ci := 10) (by decide) rfl rfl
theorem rg_119_2 : gm_gv (gm_m s) 119 2 = .int (s.1 119 2) := Eq.trans rfl rfl
theorem rp_119_2 {x : Int32} : gm_ps (gm_m s) 119 2 (.int x) = gm_m (gm_si s 119 2 x) := gm_m_psi (ci := 10) (by decide) rfl rfl
theorem rg_119_3 : gm_gv (gm_m s) 119 3 = .ref 120 := Eq.trans rfl rfl
theorem rg_119_4 : gm_gv (gm_m s) 119 4 = .int (s.1 119 4) := Eq.trans rfl rfl
theorem rp_119_4 {x : Int32} : gm_ps (gm_m s) 119 4 (.int x) = gm_m (gm_si s 119 4 x) := gm_m_psi (ci := 10) (by decide) rfl rfl
theorem rg_119_5 : gm_gv (gm_m s) 119 5 = .ref 121 := Eq.trans rfl rfl
theorem rg_119_6 : gm_gv (gm_m s) 119 6 = .ref 122 := Eq.trans rfl rfl
theorem rg_119_7 : gm_gv (gm_m s) 119 7 = .ref 123 := Eq.trans rfl rfl
theorem rg_119_8 : gm_gv (gm_m s) 119 8 = .ref 124 := Eq.trans rfl rfl
theorem rg_119_9 : gm_gv (gm_m s) 119 9 = .int (s.1 119 9) := Eq.trans rfl rfl
theorem rp_119_9 {x : Int32} : gm_ps (gm_m s) 119 9 (.int x) = gm_m (gm_si s 119 9 x) := gm_m_psi (ci := 10) (by decide) rfl rfl
theorem rg_119_10 : gm_gv (gm_m s) 119 10 = .ref 131 := Eq.trans rfl rfl
theorem rg_119_11 : gm_gv (gm_m s) 119 11 = .ref 132 := Eq.trans rfl rfl
theorem rg_119_12 : gm_gv (gm_m s) 119 12 = .ref 133 := Eq.trans rfl rfl
theorem rg_119_13 : gm_gv (gm_m s) 119 13 = .ref 134 := Eq.trans rfl rfl
theorem rg_119_14 : gm_gv (gm_m s) 119 14 = .ref 135 := Eq.trans rfl rfl
theorem rg_119_15 : gm_gv (gm_m s) 119 15 = .ref 136 := Eq.trans rfl rfl
theorem ra_120 {i : Int32} : gm_ai (gm_m s) 0 120 i = vp_in i 4 := gm_m_ai (by decide) rfl (Or.inl rfl)
theorem rv_120 {j : Nat} : gm_av (gm_m s) 120 j = s.1 120 j := gm_m_av (t := 0) (n := 4) (by decide) rfl (Or.inl rfl)
theorem rs_120 {j : Nat} {x : Int32} : gm_as (gm_m s) 120 j x = gm_m (gm_si s 120 j x) := gm_m_as (t := 0) (n := 4) (by decide) rfl (Or.inl rfl)
theorem ra_121 {i : Int32} : gm_ai (gm_m s) 0 121 i = vp_in i 6 := gm_m_ai (by decide) rfl (Or.inl rfl)
theorem rv_121 {j : Nat} : gm_av (gm_m s) 121 j = s.1 121 j := gm_m_av (t := 0) (n := 6) (by decide) rfl (Or.inl rfl)
theorem rs_121 {j : Nat} {x : Int32} : gm_as (gm_m s) 121 j x = gm_m (gm_si s 121 j x) := gm_m_as (t := 0) (n := 6) (by decide) rfl (Or.inl rfl)
theorem ra_122 {i : Int32} : gm_ai (gm_m s) 0 122 i = vp_in i 6 := gm_m_ai (by decide) rfl (Or.inl rfl)
theorem rv_122 {j : Nat} : gm_av (gm_m s) 122 j = s.1 122 j := gm_m_av (t := 0) (n := 6) (by decide) rfl (Or.inl rfl)
theorem rs_122 {j : Nat} {x : Int32} : gm_as (gm_m s) 122 j x = gm_m (gm_si s 122 j x) := gm_m_as (t := 0) (n := 6) (by decide) rfl (Or.inl rfl)
theorem ra_123 {i : Int32} : gm_ai (gm_m s) 0 123 i = vp_in i 6 := gm_m_ai (by decide) rfl (Or.inl rfl)
theorem rv_123 {j : Nat} : gm_av (gm_m s) 123 j = s.1 123 j := gm_m_av (t := 0) (n := 6) (by decide) rfl (Or.inl rfl)
theorem rs_123 {j : Nat} {x : Int32} : gm_as (gm_m s) 123 j x = gm_m (gm_si s 123 j x) := gm_m_as (t := 0) (n := 6) (by decide) rfl (Or.inl rfl)
theorem ra_125 {i : Int32} : gm_ai (gm_m s) 0 125 i = vp_in i 4 := gm_m_ai (by decide) rfl (Or.inl rfl)
theorem rv_125 {j : Nat} : gm_av (gm_m s) 125 j = s.1 125 j := gm_m_av (t := 0) (n := 4) (by decide) rfl (Or.inl rfl)
theorem rs_125 {j : Nat} {x : Int32} : gm_as (gm_m s) 125 j x = gm_m (gm_si s 125 j x) := gm_m_as (t := 0) (n := 4) (by decide) rfl (Or.inl rfl)
theorem ra_126 {i : Int32} : gm_ai (gm_m s) 0 126 i = vp_in i 4 := gm_m_ai (by decide) rfl (Or.inl rfl)
theorem rv_126 {j : Nat} : gm_av (gm_m s) 126 j = s.1 126 j := gm_m_av (t := 0) (n := 4) (by decide) rfl (Or.inl rfl)
theorem rs_126 {j : Nat} {x : Int32} : gm_as (gm_m s) 126 j x = gm_m (gm_si s 126 j x) := gm_m_as (t := 0) (n := 4) (by decide) rfl (Or.inl rfl)
theorem ra_127 {i : Int32} : gm_ai (gm_m s) 0 127 i = vp_in i 4 := gm_m_ai (by decide) rfl (Or.inl rfl)
theorem rv_127 {j : Nat} : gm_av (gm_m s) 127 j = s.1 127 j := gm_m_av (t := 0) (n := 4) (by decide) rfl (Or.inl rfl)
theorem rs_127 {j : Nat} {x : Int32} : gm_as (gm_m s) 127 j x = gm_m (gm_si s 127 j x) := gm_m_as (t := 0) (n := 4) (by decide) rfl (Or.inl rfl)
theorem ra_128 {i : Int32} : gm_ai (gm_m s) 0 128 i = vp_in i 4 := gm_m_ai (by decide) rfl (Or.inl rfl)
theorem rv_128 {j : Nat} : gm_av (gm_m s) 128 j = s.1 128 j := gm_m_av (t := 0) (n := 4) (by decide) rfl (Or.inl rfl)
theorem rs_128 {j : Nat} {x : Int32} : gm_as (gm_m s) 128 j x = gm_m (gm_si s 128 j x) := gm_m_as (t := 0) (n := 4) (by decide) rfl (Or.inl rfl)
theorem ra_129 {i : Int32} : gm_ai (gm_m s) 0 129 i = vp_in i 4 := gm_m_ai (by decide) rfl (Or.inl rfl)
theorem rv_129 {j : Nat} : gm_av (gm_m s) 129 j = s.1 129 j := gm_m_av (t := 0) (n := 4) (by decide) rfl (Or.inl rfl)
theorem rs_129 {j : Nat} {x : Int32} : gm_as (gm_m s) 129 j x = gm_m (gm_si s 129 j x) := gm_m_as (t := 0) (n := 4) (by decide) rfl (Or.inl rfl)
theorem ra_130 {i : Int32} : gm_ai (gm_m s) 0 130 i = vp_in i 4 := gm_m_ai (by decide) rfl (Or.inl rfl)
theorem rv_130 {j : Nat} : gm_av (gm_m s) 130 j = s.1 130 j := gm_m_av (t := 0) (n := 4) (by decide) rfl (Or.inl rfl)
theorem rs_130 {j : Nat} {x : Int32} : gm_as (gm_m s) 130 j x = gm_m (gm_si s 130 j x) := gm_m_as (t := 0) (n := 4) (by decide) rfl (Or.inl rfl)
theorem ra_131 {i : Int32} : gm_ai (gm_m s) 0 131 i = vp_in i 8 := gm_m_ai (by decide) rfl (Or.inl rfl)
theorem rv_131 {j : Nat} : gm_av (gm_m s) 131 j = s.1 131 j := gm_m_av (t := 0) (n := 8) (by decide) rfl (Or.inl rfl)
theorem rs_131 {j : Nat} {x : Int32} : gm_as (gm_m s) 131 j x = gm_m (gm_si s 131 j x) := gm_m_as (t := 0) (n := 8) (by decide) rfl (Or.inl rfl)
theorem ra_132 {i : Int32} : gm_ai (gm_m s) 0 132 i = vp_in i 8 := gm_m_ai (by decide) rfl (Or.inl rfl)
theorem rv_132 {j : Nat} : gm_av (gm_m s) 132 j = s.1 132 j := gm_m_av (t := 0) (n := 8) (by decide) rfl (Or.inl rfl)
theorem rs_132 {j : Nat} {x : Int32} : gm_as (gm_m s) 132 j x = gm_m (gm_si s 132 j x) := gm_m_as (t := 0) (n := 8) (by decide) rfl (Or.inl rfl)
theorem ra_133 {i : Int32} : gm_ai (gm_m s) 0 133 i = vp_in i 8 := gm_m_ai (by decide) rfl (Or.inl rfl)
theorem rv_133 {j : Nat} : gm_av (gm_m s) 133 j = s.1 133 j := gm_m_av (t := 0) (n := 8) (by decide) rfl (Or.inl rfl)
theorem rs_133 {j : Nat} {x : Int32} : gm_as (gm_m s) 133 j x = gm_m (gm_si s 133 j x) := gm_m_as (t := 0) (n := 8) (by decide) rfl (Or.inl rfl)
theorem ra_134 {i : Int32} : gm_ai (gm_m s) 0 134 i = vp_in i 8 := gm_m_ai (by decide) rfl (Or.inl rfl)
theorem rv_134 {j : Nat} : gm_av (gm_m s) 134 j = s.1 134 j := gm_m_av (t := 0) (n := 8) (by decide) rfl (Or.inl rfl)
theorem rs_134 {j : Nat} {x : Int32} : gm_as (gm_m s) 134 j x = gm_m (gm_si s 134 j x) := gm_m_as (t := 0) (n := 8) (by decide) rfl (Or.inl rfl)
theorem ra_135 {i : Int32} : gm_ai (gm_m s) 0 135 i = vp_in i 8 := gm_m_ai (by decide) rfl (Or.inl rfl)
theorem rv_135 {j : Nat} : gm_av (gm_m s) 135 j = s.1 135 j := gm_m_av (t := 0) (n := 8) (by decide) rfl (Or.inl rfl)
theorem rs_135 {j : Nat} {x : Int32} : gm_as (gm_m s) 135 j x = gm_m (gm_si s 135 j x) := gm_m_as (t := 0) (n := 8) (by decide) rfl (Or.inl rfl)
theorem ra_136 {i : Int32} : gm_ai (gm_m s) 0 136 i = vp_in i 6 := gm_m_ai (by decide) rfl (Or.inl rfl)
theorem rv_136 {j : Nat} : gm_av (gm_m s) 136 j = s.1 136 j := gm_m_av (t := 0) (n := 6) (by decide) rfl (Or.inl rfl)
theorem rs_136 {j : Nat} {x : Int32} : gm_as (gm_m s) 136 j x = gm_m (gm_si s 136 j x) := gm_m_as (t := 0) (n := 6) (by decide) rfl (Or.inl rfl)
end
