/-! rows: instructions that work on the stack -/
theorem gs_iconst {g : gx_T} {own : String} {cc : ByteArray} {nL : Nat} {rt : Option FieldType} {nm : String} {pc : Nat} {n : Int} {v : Int32} (hd : decode cc pc = .ok (.iconst n, 1)) (hv : Int32.ofInt n = v) : gx_N g own cc nL rt nm pc (gc_k (.int v) 1) := gx_easy (fun L st M x h => by
  unfold gc_k at h
  cases h
  exact ⟨rfl, rfl, fun hC hI _ _ _ _ k => lv_iconst hC.1 hC.2.1 hd hv k⟩)
theorem gs_bipush {g : gx_T} {own : String} {cc : ByteArray} {nL : Nat} {rt : Option FieldType} {nm : String} {pc : Nat} {n : Int} {v : Int32} (hd : decode cc pc = .ok (.bipush n, 2)) (hv : (Int8.ofInt n).toInt32 = v) : gx_N g own cc nL rt nm pc (gc_k (.int v) 2) := gx_easy (fun L st M x h => by
  unfold gc_k at h
  cases h
  exact ⟨rfl, rfl, fun hC hI _ _ _ _ k => lv_bipush hC.1 hC.2.1 hd hv k⟩)
theorem gs_sipush {g : gx_T} {own : String} {cc : ByteArray} {nL : Nat} {rt : Option FieldType} {nm : String} {pc : Nat} {n : Int} {v : Int32} (hd : decode cc pc = .ok (.sipush n, 3)) (hv : (Int16.ofInt n).toInt32 = v) : gx_N g own cc nL rt nm pc (gc_k (.int v) 3) := gx_easy (fun L st M x h => by
  unfold gc_k at h
  cases h
  exact ⟨rfl, rfl, fun hC hI _ _ _ _ k => lv_sipush hC.1 hC.2.1 hd hv k⟩)
theorem gs_lconst {g : gx_T} {own : String} {cc : ByteArray} {nL : Nat} {rt : Option FieldType} {nm : String} {pc : Nat} {n : Fin 2} {v : Int64} (hd : decode cc pc = .ok (.lconst n, 1)) (hv : Int64.ofNat (n : Nat) = v) : gx_N g own cc nL rt nm pc (gc_k (.long v) 1) := gx_easy (fun L st M x h => by
  unfold gc_k at h
  cases h
  exact ⟨rfl, rfl, fun hC hI _ _ _ _ k => lv_lconst hC.1 hC.2.1 hd hv k⟩)
theorem gs_ldc {g : gx_T} {own : String} {cc : ByteArray} {nL : Nat} {rt : Option FieldType} {nm : String} {pc : Nat} {i : Nat} {v : Int32} (hd : decode cc pc = .ok (.ldc i, 2)) (hw : Cond.constant own i v ∈ gx_WS) : gx_N g own cc nL rt nm pc (gc_k (.int v) 2) := gx_easy (fun L st M x h => by
  unfold gc_k at h
  cases h
  exact ⟨rfl, rfl, fun hC hI _ _ _ _ k => lv_ldc hC.1 hC.2.1 hC.2.2.2.1 (hC.2.2.2.2.1 _ hw) hd k⟩)
theorem gs_ldcw {g : gx_T} {own : String} {cc : ByteArray} {nL : Nat} {rt : Option FieldType} {nm : String} {pc : Nat} {i : Nat} {v : Int32} (hd : decode cc pc = .ok (.ldc_w i, 3)) (hw : Cond.constant own i v ∈ gx_WS) : gx_N g own cc nL rt nm pc (gc_k (.int v) 3) := gx_easy (fun L st M x h => by
  unfold gc_k at h
  cases h
  exact ⟨rfl, rfl, fun hC hI _ _ _ _ k => lv_ldcw hC.1 hC.2.1 hC.2.2.2.1 (hC.2.2.2.2.1 _ hw) hd k⟩)
theorem gs_ldc2 {g : gx_T} {own : String} {cc : ByteArray} {nL : Nat} {rt : Option FieldType} {nm : String} {pc : Nat} {i : Nat} {v : Int64} (hd : decode cc pc = .ok (.ldc2_w i, 3)) (hw : Cond.constantLong own i v ∈ gx_WS) : gx_N g own cc nL rt nm pc (gc_k (.long v) 3) := gx_easy (fun L st M x h => by
  unfold gc_k at h
  cases h
  exact ⟨rfl, rfl, fun hC hI _ _ _ _ k => lv_ldc2 hC.1 hC.2.1 hC.2.2.2.1 (hC.2.2.2.2.1 _ hw) hd k⟩)
theorem gs_null {g : gx_T} {own : String} {cc : ByteArray} {nL : Nat} {rt : Option FieldType} {nm : String} {pc : Nat}  (hd : decode cc pc = .ok (.aconst_null, 1)) : gx_N g own cc nL rt nm pc (gc_k .null 1) := gx_easy (fun L st M x h => by
  unfold gc_k at h
  cases h
  exact ⟨rfl, rfl, fun hC hI _ _ _ _ k => lv_null hC.1 hC.2.1 hd k⟩)
theorem gs_iadd {g : gx_T} {own : String} {cc : ByteArray} {nL : Nat} {rt : Option FieldType} {nm : String} {pc : Nat}  (hd : decode cc pc = .ok (.iadd, 1)) : gx_N g own cc nL rt nm pc (gc_ii (fun x y => x + y)) := gx_easy (fun L st M x h => by
  unfold gc_ii at h
  split at h
  · cases h
    exact ⟨rfl, rfl, fun hC hI _ _ _ _ k => lv_iadd hC.1 hC.2.1 hd k⟩
  · cases h)
theorem gs_isub {g : gx_T} {own : String} {cc : ByteArray} {nL : Nat} {rt : Option FieldType} {nm : String} {pc : Nat}  (hd : decode cc pc = .ok (.isub, 1)) : gx_N g own cc nL rt nm pc (gc_ii (fun x y => x - y)) := gx_easy (fun L st M x h => by
  unfold gc_ii at h
  split at h
  · cases h
    exact ⟨rfl, rfl, fun hC hI _ _ _ _ k => lv_isub hC.1 hC.2.1 hd k⟩
  · cases h)
theorem gs_imul {g : gx_T} {own : String} {cc : ByteArray} {nL : Nat} {rt : Option FieldType} {nm : String} {pc : Nat}  (hd : decode cc pc = .ok (.imul, 1)) : gx_N g own cc nL rt nm pc (gc_ii (fun x y => x * y)) := gx_easy (fun L st M x h => by
  unfold gc_ii at h
  split at h
  · cases h
    exact ⟨rfl, rfl, fun hC hI _ _ _ _ k => lv_imul hC.1 hC.2.1 hd k⟩
  · cases h)
theorem gs_iand {g : gx_T} {own : String} {cc : ByteArray} {nL : Nat} {rt : Option FieldType} {nm : String} {pc : Nat}  (hd : decode cc pc = .ok (.iand, 1)) : gx_N g own cc nL rt nm pc (gc_ii (fun x y => x &&& y)) := gx_easy (fun L st M x h => by
  unfold gc_ii at h
  split at h
  · cases h
    exact ⟨rfl, rfl, fun hC hI _ _ _ _ k => lv_iand hC.1 hC.2.1 hd k⟩
  · cases h)
theorem gs_ior {g : gx_T} {own : String} {cc : ByteArray} {nL : Nat} {rt : Option FieldType} {nm : String} {pc : Nat}  (hd : decode cc pc = .ok (.ior, 1)) : gx_N g own cc nL rt nm pc (gc_ii (fun x y => x ||| y)) := gx_easy (fun L st M x h => by
  unfold gc_ii at h
  split at h
  · cases h
    exact ⟨rfl, rfl, fun hC hI _ _ _ _ k => lv_ior hC.1 hC.2.1 hd k⟩
  · cases h)
theorem gs_ixor {g : gx_T} {own : String} {cc : ByteArray} {nL : Nat} {rt : Option FieldType} {nm : String} {pc : Nat}  (hd : decode cc pc = .ok (.ixor, 1)) : gx_N g own cc nL rt nm pc (gc_ii (fun x y => x ^^^ y)) := gx_easy (fun L st M x h => by
  unfold gc_ii at h
  split at h
  · cases h
    exact ⟨rfl, rfl, fun hC hI _ _ _ _ k => lv_ixor hC.1 hC.2.1 hd k⟩
  · cases h)
theorem gs_ishl {g : gx_T} {own : String} {cc : ByteArray} {nL : Nat} {rt : Option FieldType} {nm : String} {pc : Nat}  (hd : decode cc pc = .ok (.ishl, 1)) : gx_N g own cc nL rt nm pc (gc_ii (fun x y => x <<< (y &&& 31))) := gx_easy (fun L st M x h => by
  unfold gc_ii at h
  split at h
  · cases h
    exact ⟨rfl, rfl, fun hC hI _ _ _ _ k => lv_ishl hC.1 hC.2.1 hd k⟩
  · cases h)
theorem gs_ishr {g : gx_T} {own : String} {cc : ByteArray} {nL : Nat} {rt : Option FieldType} {nm : String} {pc : Nat}  (hd : decode cc pc = .ok (.ishr, 1)) : gx_N g own cc nL rt nm pc (gc_ii (fun x y => x >>> (y &&& 31))) := gx_easy (fun L st M x h => by
  unfold gc_ii at h
  split at h
  · cases h
    exact ⟨rfl, rfl, fun hC hI _ _ _ _ k => lv_ishr hC.1 hC.2.1 hd k⟩
  · cases h)
theorem gs_iushr {g : gx_T} {own : String} {cc : ByteArray} {nL : Nat} {rt : Option FieldType} {nm : String} {pc : Nat}  (hd : decode cc pc = .ok (.iushr, 1)) : gx_N g own cc nL rt nm pc (gc_ii (fun x y => (x.toUInt32 >>> (y.toUInt32 &&& Int32.toUInt32 31)).toInt32)) := gx_easy (fun L st M x h => by
  unfold gc_ii at h
  split at h
  · cases h
    exact ⟨rfl, rfl, fun hC hI _ _ _ _ k => lv_iushr hC.1 hC.2.1 hd rfl k⟩
  · cases h)
theorem gs_ineg {g : gx_T} {own : String} {cc : ByteArray} {nL : Nat} {rt : Option FieldType} {nm : String} {pc : Nat}  (hd : decode cc pc = .ok (.ineg, 1)) : gx_N g own cc nL rt nm pc (gc_i1 (fun x => -x)) := gx_easy (fun L st M x h => by
  unfold gc_i1 at h
  split at h
  · cases h
    exact ⟨rfl, rfl, fun hC hI _ _ _ _ k => lv_ineg hC.1 hC.2.1 hd k⟩
  · cases h)
theorem gs_i2b {g : gx_T} {own : String} {cc : ByteArray} {nL : Nat} {rt : Option FieldType} {nm : String} {pc : Nat}  (hd : decode cc pc = .ok (.i2b, 1)) : gx_N g own cc nL rt nm pc (gc_i1 (fun x => x.toInt8.toInt32)) := gx_easy (fun L st M x h => by
  unfold gc_i1 at h
  split at h
  · cases h
    exact ⟨rfl, rfl, fun hC hI _ _ _ _ k => lv_i2b hC.1 hC.2.1 hd rfl k⟩
  · cases h)
theorem gs_i2s {g : gx_T} {own : String} {cc : ByteArray} {nL : Nat} {rt : Option FieldType} {nm : String} {pc : Nat}  (hd : decode cc pc = .ok (.i2s, 1)) : gx_N g own cc nL rt nm pc (gc_i1 (fun x => x.toInt16.toInt32)) := gx_easy (fun L st M x h => by
  unfold gc_i1 at h
  split at h
  · cases h
    exact ⟨rfl, rfl, fun hC hI _ _ _ _ k => lv_i2s hC.1 hC.2.1 hd rfl k⟩
  · cases h)
theorem gs_i2c {g : gx_T} {own : String} {cc : ByteArray} {nL : Nat} {rt : Option FieldType} {nm : String} {pc : Nat}  (hd : decode cc pc = .ok (.i2c, 1)) : gx_N g own cc nL rt nm pc (gc_i1 (fun x => (x.toUInt32 % 65536).toInt32)) := gx_easy (fun L st M x h => by
  unfold gc_i1 at h
  split at h
  · cases h
    exact ⟨rfl, rfl, fun hC hI _ _ _ _ k => lv_i2c hC.1 hC.2.1 hd rfl k⟩
  · cases h)
theorem gs_i2l {g : gx_T} {own : String} {cc : ByteArray} {nL : Nat} {rt : Option FieldType} {nm : String} {pc : Nat}  (hd : decode cc pc = .ok (.i2l, 1)) : gx_N g own cc nL rt nm pc (gc_i2l) := gx_easy (fun L st M x h => by
  unfold gc_i2l at h
  split at h
  · cases h
    exact ⟨rfl, rfl, fun hC hI _ _ _ _ k => lv_i2l hC.1 hC.2.1 hd rfl k⟩
  · cases h)
theorem gs_l2i {g : gx_T} {own : String} {cc : ByteArray} {nL : Nat} {rt : Option FieldType} {nm : String} {pc : Nat}  (hd : decode cc pc = .ok (.l2i, 1)) : gx_N g own cc nL rt nm pc (gc_l2i) := gx_easy (fun L st M x h => by
  unfold gc_l2i at h
  split at h
  · cases h
    exact ⟨rfl, rfl, fun hC hI _ _ _ _ k => lv_l2i hC.1 hC.2.1 hd rfl k⟩
  · cases h)
theorem gs_land {g : gx_T} {own : String} {cc : ByteArray} {nL : Nat} {rt : Option FieldType} {nm : String} {pc : Nat}  (hd : decode cc pc = .ok (.land, 1)) : gx_N g own cc nL rt nm pc (gc_ll (fun x y => x &&& y)) := gx_easy (fun L st M x h => by
  unfold gc_ll at h
  split at h
  · cases h
    exact ⟨rfl, rfl, fun hC hI _ _ _ _ k => lv_land hC.1 hC.2.1 hd k⟩
  · cases h)
theorem gs_lor {g : gx_T} {own : String} {cc : ByteArray} {nL : Nat} {rt : Option FieldType} {nm : String} {pc : Nat}  (hd : decode cc pc = .ok (.lor, 1)) : gx_N g own cc nL rt nm pc (gc_ll (fun x y => x ||| y)) := gx_easy (fun L st M x h => by
  unfold gc_ll at h
  split at h
  · cases h
    exact ⟨rfl, rfl, fun hC hI _ _ _ _ k => lv_lor hC.1 hC.2.1 hd k⟩
  · cases h)
theorem gs_lshl {g : gx_T} {own : String} {cc : ByteArray} {nL : Nat} {rt : Option FieldType} {nm : String} {pc : Nat}  (hd : decode cc pc = .ok (.lshl, 1)) : gx_N g own cc nL rt nm pc (gc_lshl) := gx_easy (fun L st M x h => by
  unfold gc_lshl at h
  split at h
  · cases h
    exact ⟨rfl, rfl, fun hC hI _ _ _ _ k => lv_lshl hC.1 hC.2.1 hd rfl k⟩
  · cases h)
theorem gs_idiv {g : gx_T} {own : String} {cc : ByteArray} {nL : Nat} {rt : Option FieldType} {nm : String} {pc : Nat}  (hd : decode cc pc = .ok (.idiv, 1)) : gx_N g own cc nL rt nm pc (gc_idiv) := gx_easy (fun L st M x h => by
  unfold gc_idiv at h
  split at h
  · split at h
    · cases h
    · rename_i hne
      cases h
      exact ⟨rfl, rfl, fun hC hI _ _ _ _ k => lv_idiv hC.1 hC.2.1 hd hne k⟩
  · cases h)
theorem gs_irem {g : gx_T} {own : String} {cc : ByteArray} {nL : Nat} {rt : Option FieldType} {nm : String} {pc : Nat}  (hd : decode cc pc = .ok (.irem, 1)) : gx_N g own cc nL rt nm pc (gc_irem) := gx_easy (fun L st M x h => by
  unfold gc_irem at h
  split at h
  · split at h
    · cases h
    · rename_i hne
      cases h
      exact ⟨rfl, rfl, fun hC hI _ _ _ _ k => lv_irem hC.1 hC.2.1 hd hne k⟩
  · cases h)
theorem gs_icmp_eq {g : gx_T} {own : String} {cc : ByteArray} {nL : Nat} {rt : Option FieldType} {nm : String} {pc : Nat} {off : Int} {t : Nat} (hd : decode cc pc = .ok (.if_icmp .eq off, 3)) (ht : (pc : Int) + off = (t : Int)) : gx_N g own cc nL rt nm pc (gc_if2 (fun x y => decide (x = y)) t) := gx_easy (fun L st M x h => by
  unfold gc_if2 at h
  split at h
  · cases h
    exact ⟨rfl, rfl, fun hC hI _ _ _ _ k => lv_icmp_eq hC.1 hC.2.1 hd ht (fun q => by simpa [q] using k) (fun q => by simpa [q] using k)⟩
  · cases h)
theorem gs_icmp_ne {g : gx_T} {own : String} {cc : ByteArray} {nL : Nat} {rt : Option FieldType} {nm : String} {pc : Nat} {off : Int} {t : Nat} (hd : decode cc pc = .ok (.if_icmp .ne off, 3)) (ht : (pc : Int) + off = (t : Int)) : gx_N g own cc nL rt nm pc (gc_if2 (fun x y => !decide (x = y)) t) := gx_easy (fun L st M x h => by
  unfold gc_if2 at h
  split at h
  · cases h
    exact ⟨rfl, rfl, fun hC hI _ _ _ _ k => lv_icmp_ne hC.1 hC.2.1 hd ht (fun q => by simpa [q] using k) (fun q => by simpa [q] using k)⟩
  · cases h)
theorem gs_icmp_lt {g : gx_T} {own : String} {cc : ByteArray} {nL : Nat} {rt : Option FieldType} {nm : String} {pc : Nat} {off : Int} {t : Nat} (hd : decode cc pc = .ok (.if_icmp .lt off, 3)) (ht : (pc : Int) + off = (t : Int)) : gx_N g own cc nL rt nm pc (gc_if2 (fun x y => decide (x < y)) t) := gx_easy (fun L st M x h => by
  unfold gc_if2 at h
  split at h
  · cases h
    exact ⟨rfl, rfl, fun hC hI _ _ _ _ k => lv_icmp_lt hC.1 hC.2.1 hd ht (fun q => by simpa [q] using k) (fun q => by simpa [q] using k)⟩
  · cases h)
theorem gs_icmp_ge {g : gx_T} {own : String} {cc : ByteArray} {nL : Nat} {rt : Option FieldType} {nm : String} {pc : Nat} {off : Int} {t : Nat} (hd : decode cc pc = .ok (.if_icmp .ge off, 3)) (ht : (pc : Int) + off = (t : Int)) : gx_N g own cc nL rt nm pc (gc_if2 (fun x y => decide (y ≤ x)) t) := gx_easy (fun L st M x h => by
  unfold gc_if2 at h
  split at h
  · cases h
    exact ⟨rfl, rfl, fun hC hI _ _ _ _ k => lv_icmp_ge hC.1 hC.2.1 hd ht (fun q => by simpa [q] using k) (fun q => by simpa [q] using k)⟩
  · cases h)
theorem gs_icmp_gt {g : gx_T} {own : String} {cc : ByteArray} {nL : Nat} {rt : Option FieldType} {nm : String} {pc : Nat} {off : Int} {t : Nat} (hd : decode cc pc = .ok (.if_icmp .gt off, 3)) (ht : (pc : Int) + off = (t : Int)) : gx_N g own cc nL rt nm pc (gc_if2 (fun x y => decide (y < x)) t) := gx_easy (fun L st M x h => by
  unfold gc_if2 at h
  split at h
  · cases h
    exact ⟨rfl, rfl, fun hC hI _ _ _ _ k => lv_icmp_gt hC.1 hC.2.1 hd ht (fun q => by simpa [q] using k) (fun q => by simpa [q] using k)⟩
  · cases h)
theorem gs_icmp_le {g : gx_T} {own : String} {cc : ByteArray} {nL : Nat} {rt : Option FieldType} {nm : String} {pc : Nat} {off : Int} {t : Nat} (hd : decode cc pc = .ok (.if_icmp .le off, 3)) (ht : (pc : Int) + off = (t : Int)) : gx_N g own cc nL rt nm pc (gc_if2 (fun x y => decide (x ≤ y)) t) := gx_easy (fun L st M x h => by
  unfold gc_if2 at h
  split at h
  · cases h
    exact ⟨rfl, rfl, fun hC hI _ _ _ _ k => lv_icmp_le hC.1 hC.2.1 hd ht (fun q => by simpa [q] using k) (fun q => by simpa [q] using k)⟩
  · cases h)
theorem gs_if_eq {g : gx_T} {own : String} {cc : ByteArray} {nL : Nat} {rt : Option FieldType} {nm : String} {pc : Nat} {off : Int} {t : Nat} (hd : decode cc pc = .ok (.ifCond .eq off, 3)) (ht : (pc : Int) + off = (t : Int)) : gx_N g own cc nL rt nm pc (gc_if1 (fun x => decide (x = 0)) t) := gx_easy (fun L st M x h => by
  unfold gc_if1 at h
  split at h
  · cases h
    exact ⟨rfl, rfl, fun hC hI _ _ _ _ k => lv_if_eq hC.1 hC.2.1 hd ht (fun q => by simpa [q] using k) (fun q => by simpa [q] using k)⟩
  · cases h)
theorem gs_if_ne {g : gx_T} {own : String} {cc : ByteArray} {nL : Nat} {rt : Option FieldType} {nm : String} {pc : Nat} {off : Int} {t : Nat} (hd : decode cc pc = .ok (.ifCond .ne off, 3)) (ht : (pc : Int) + off = (t : Int)) : gx_N g own cc nL rt nm pc (gc_if1 (fun x => !decide (x = 0)) t) := gx_easy (fun L st M x h => by
  unfold gc_if1 at h
  split at h
  · cases h
    exact ⟨rfl, rfl, fun hC hI _ _ _ _ k => lv_if_ne hC.1 hC.2.1 hd ht (fun q => by simpa [q] using k) (fun q => by simpa [q] using k)⟩
  · cases h)
theorem gs_if_lt {g : gx_T} {own : String} {cc : ByteArray} {nL : Nat} {rt : Option FieldType} {nm : String} {pc : Nat} {off : Int} {t : Nat} (hd : decode cc pc = .ok (.ifCond .lt off, 3)) (ht : (pc : Int) + off = (t : Int)) : gx_N g own cc nL rt nm pc (gc_if1 (fun x => decide (x < 0)) t) := gx_easy (fun L st M x h => by
  unfold gc_if1 at h
  split at h
  · cases h
    exact ⟨rfl, rfl, fun hC hI _ _ _ _ k => lv_if_lt hC.1 hC.2.1 hd ht (fun q => by simpa [q] using k) (fun q => by simpa [q] using k)⟩
  · cases h)
theorem gs_if_ge {g : gx_T} {own : String} {cc : ByteArray} {nL : Nat} {rt : Option FieldType} {nm : String} {pc : Nat} {off : Int} {t : Nat} (hd : decode cc pc = .ok (.ifCond .ge off, 3)) (ht : (pc : Int) + off = (t : Int)) : gx_N g own cc nL rt nm pc (gc_if1 (fun x => decide (0 ≤ x)) t) := gx_easy (fun L st M x h => by
  unfold gc_if1 at h
  split at h
  · cases h
    exact ⟨rfl, rfl, fun hC hI _ _ _ _ k => lv_if_ge hC.1 hC.2.1 hd ht (fun q => by simpa [q] using k) (fun q => by simpa [q] using k)⟩
  · cases h)
theorem gs_if_gt {g : gx_T} {own : String} {cc : ByteArray} {nL : Nat} {rt : Option FieldType} {nm : String} {pc : Nat} {off : Int} {t : Nat} (hd : decode cc pc = .ok (.ifCond .gt off, 3)) (ht : (pc : Int) + off = (t : Int)) : gx_N g own cc nL rt nm pc (gc_if1 (fun x => decide (0 < x)) t) := gx_easy (fun L st M x h => by
  unfold gc_if1 at h
  split at h
  · cases h
    exact ⟨rfl, rfl, fun hC hI _ _ _ _ k => lv_if_gt hC.1 hC.2.1 hd ht (fun q => by simpa [q] using k) (fun q => by simpa [q] using k)⟩
  · cases h)
theorem gs_if_le {g : gx_T} {own : String} {cc : ByteArray} {nL : Nat} {rt : Option FieldType} {nm : String} {pc : Nat} {off : Int} {t : Nat} (hd : decode cc pc = .ok (.ifCond .le off, 3)) (ht : (pc : Int) + off = (t : Int)) : gx_N g own cc nL rt nm pc (gc_if1 (fun x => decide (x ≤ 0)) t) := gx_easy (fun L st M x h => by
  unfold gc_if1 at h
  split at h
  · cases h
    exact ⟨rfl, rfl, fun hC hI _ _ _ _ k => lv_if_le hC.1 hC.2.1 hd ht (fun q => by simpa [q] using k) (fun q => by simpa [q] using k)⟩
  · cases h)
theorem gs_goto {g : gx_T} {own : String} {cc : ByteArray} {nL : Nat} {rt : Option FieldType} {nm : String} {pc : Nat} {off : Int} {t : Nat} (hd : decode cc pc = .ok (.goto off, 3)) (ht : (pc : Int) + off = (t : Int)) : gx_N g own cc nL rt nm pc (gc_go t) := gx_easy (fun L st M x h => by
  unfold gc_go at h
  cases h
  exact ⟨rfl, rfl, fun hC hI _ _ _ _ k => lv_goto hC.1 hC.2.1 hd ht k⟩)
theorem gs_ifnull {g : gx_T} {own : String} {cc : ByteArray} {nL : Nat} {rt : Option FieldType} {nm : String} {pc : Nat} {off : Int} {t : Nat} (hd : decode cc pc = .ok (.ifnull off, 3)) (ht : (pc : Int) + off = (t : Int)) : gx_N g own cc nL rt nm pc (gc_ifnull t) := gx_easy (fun L st M x h => by
  unfold gc_ifnull at h
  split at h
  · cases h
    exact ⟨rfl, rfl, fun hC hI _ _ _ _ k => lv_ifnullN hC.1 hC.2.1 hd ht k⟩
  · split at h
    · rename_i hk
      cases h
      exact ⟨rfl, rfl, fun hC hI _ _ _ _ k => by
        simp only [List.map_cons, gx_v, hk, if_true]
        exact lv_ifnull hC.1 hC.2.1 hd k⟩
    · cases h
  · cases h)
theorem gs_ifnonnull {g : gx_T} {own : String} {cc : ByteArray} {nL : Nat} {rt : Option FieldType} {nm : String} {pc : Nat} {off : Int} {t : Nat} (hd : decode cc pc = .ok (.ifnonnull off, 3)) (ht : (pc : Int) + off = (t : Int)) : gx_N g own cc nL rt nm pc (gc_ifnonnull t) := gx_easy (fun L st M x h => by
  unfold gc_ifnonnull at h
  split at h
  · cases h
    exact ⟨rfl, rfl, fun hC hI _ _ _ _ k => lv_ifnonnullN hC.1 hC.2.1 hd k⟩
  · split at h
    · rename_i hk
      cases h
      exact ⟨rfl, rfl, fun hC hI _ _ _ _ k => by
        simp only [List.map_cons, gx_v, hk, if_true]
        exact lv_ifnonnull hC.1 hC.2.1 hd ht k⟩
    · cases h
  · cases h)
theorem gs_lcmp {g : gx_T} {own : String} {cc : ByteArray} {nL : Nat} {rt : Option FieldType} {nm : String} {pc : Nat} (hd : decode cc pc = .ok (.lcmp, 1)) : gx_N g own cc nL rt nm pc gc_lcmp := gx_easy (fun L st M x h => by
  unfold gc_lcmp at h
  split at h
  · cases h
    exact ⟨rfl, rfl, fun hC hI _ _ _ _ k => W.lcmp hC.1 hC.2.1 hd k⟩
  · cases h)
theorem gs_dup {g : gx_T} {own : String} {cc : ByteArray} {nL : Nat} {rt : Option FieldType} {nm : String} {pc : Nat} (hd : decode cc pc = .ok (.dup, 1)) : gx_N g own cc nL rt nm pc gc_dup := gx_easy (fun L st M x h => by
  unfold gc_dup at h
  split at h
  · split at h
    · rename_i hc
      cases h
      exact ⟨rfl, rfl, fun hC hI _ _ _ _ k => lv_dup hC.1 hC.2.1 hd ((gx_v_cat g _).trans (gx_c1 hc)) k⟩
    · cases h
  · cases h)
theorem gs_pop {g : gx_T} {own : String} {cc : ByteArray} {nL : Nat} {rt : Option FieldType} {nm : String} {pc : Nat} (hd : decode cc pc = .ok (.pop, 1)) : gx_N g own cc nL rt nm pc gc_pop := gx_easy (fun L st M x h => by
  unfold gc_pop at h
  split at h
  · split at h
    · rename_i hc
      cases h
      exact ⟨rfl, rfl, fun hC hI _ _ _ _ k => lv_pop hC.1 hC.2.1 hd ((gx_v_cat g _).trans (gx_c1 hc)) k⟩
    · cases h
  · cases h)
theorem gs_dup2 {g : gx_T} {own : String} {cc : ByteArray} {nL : Nat} {rt : Option FieldType} {nm : String} {pc : Nat} (hd : decode cc pc = .ok (.dup2, 1)) : gx_N g own cc nL rt nm pc gc_dup2 := gx_easy (fun L st M x h => by
  unfold gc_dup2 at h
  split at h
  · split at h
    · rename_i hc
      cases h
      exact ⟨rfl, rfl, fun hC hI _ _ _ _ k => lv_dup2_11 hC.1 hC.2.1 hd ((gx_v_cat g _).trans (gx_c1 hc.1)) ((gx_v_cat g _).trans (gx_c1 hc.2)) k⟩
    · cases h
  · cases h)
/-- a switch by a table: where a number goes -/
def gc_tab (pc lo : Nat) (offs : List Int) (dflt : Int) : Int32 → Nat := fun x => ((pc : Int) + (if 0 ≤ x.toInt - (lo : Int) ∧ (x.toInt - (lo : Int)).toNat < offs.length then offs.getD (x.toInt - (lo : Int)).toNat 0 else dflt)).toNat
theorem gs_tsw {g : gx_T} {own : String} {cc : ByteArray} {nL : Nat} {rt : Option FieldType} {nm : String} {pc : Nat} {lo : Nat} {dflt hi : Int} {offs : List Int} {len : Nat} (hd : decode cc pc = .ok (.tableswitch dflt (lo : Int) hi offs.toArray, len)) (hh : hi = (lo : Int) + (offs.length : Int) - 1) (hp : (dflt :: offs).all (fun o => decide (0 ≤ (pc : Int) + o)) = true) : gx_N g own cc nL rt nm pc (gc_sw (gc_tab pc lo offs dflt)) := gx_easy (fun L st M x h => by
  unfold gc_sw at h
  split at h
  · rename_i y r
    cases h
    refine ⟨rfl, rfl, fun hC hI _ _ _ _ k => ?_⟩
    have hp' := List.all_eq_true.mp hp
    by_cases hin : 0 ≤ y.toInt - (lo : Int) ∧ (y.toInt - (lo : Int)).toNat < offs.length
    · have ho : offs.toArray[(y.toInt - (lo : Int)).toNat]? = some (offs.getD (y.toInt - (lo : Int)).toNat 0) := by
        rw [List.getElem?_toArray, List.getD_eq_getElem?_getD, List.getElem?_eq_getElem hin.2]
        rfl
      have hm : offs.getD (y.toInt - (lo : Int)).toNat 0 ∈ offs := by
        rw [List.getD_eq_getElem?_getD, List.getElem?_eq_getElem hin.2]
        exact List.getElem_mem hin.2
      have hge := of_decide_eq_true (hp' _ (List.mem_cons_of_mem _ hm))
      refine lv_tableIn hC.1 hC.2.1 hd (by omega) (by rw [hh]; omega) ho (tgt := gc_tab pc lo offs dflt y) ?_ k
      unfold gc_tab
      rw [if_pos hin]
      exact (Int.toNat_of_nonneg hge).symm
    · have hge := of_decide_eq_true (hp' dflt List.mem_cons_self)
      refine lv_tableOut hC.1 hC.2.1 hd (by rw [hh]; omega) (tgt := gc_tab pc lo offs dflt y) ?_ k
      unfold gc_tab
      rw [if_neg hin]
      exact (Int.toNat_of_nonneg hge).symm
  · cases h)
def gc_lup (pc : Nat) (ps : List (Int × Int)) (dflt : Int) : Int32 → Nat := fun x => ((pc : Int) + Op.lookupswitch.offset ps dflt x.toInt).toNat
theorem gs_lsw {g : gx_T} {own : String} {cc : ByteArray} {nL : Nat} {rt : Option FieldType} {nm : String} {pc : Nat} {dflt : Int} {ps : List (Int × Int)} {len : Nat} (hd : decode cc pc = .ok (.lookupswitch dflt ps.toArray, len)) (hs : (ps.zip (ps.drop 1)).all (fun (a, next) => a.1 < next.1) = true) (hp : ∀ z : Int, 0 ≤ (pc : Int) + Op.lookupswitch.offset ps dflt z) : gx_N g own cc nL rt nm pc (gc_sw (gc_lup pc ps dflt)) := gx_easy (fun L st M x h => by
  unfold gc_sw at h
  split at h
  · rename_i y r
    cases h
    exact ⟨rfl, rfl, fun hC hI _ _ _ _ k => lv_lookup hC.1 hC.2.1 hd hs rfl (tgt := gc_lup pc ps dflt y) (Int.toNat_of_nonneg (hp y.toInt)).symm k⟩
  · cases h)
theorem gs_iload {g : gx_T} {own : String} {cc : ByteArray} {nL : Nat} {rt : Option FieldType} {nm : String} {pc : Nat} {i : Nat} (hd : decode cc pc = .ok (.iload i, 2)) : gx_N g own cc nL rt nm pc (gc_ldI i 2) := gx_easy (fun L st M x h => by
  unfold gc_ldI at h
  split at h
  · rename_i hv
    cases h
    exact ⟨rfl, rfl, fun hC hI _ _ _ _ k => lv_iload hC.1 hC.2.1 hd (hI.2.2.2.1.2.2.2 _ _ hv) k⟩
  · cases h)
theorem gs_iload_n {g : gx_T} {own : String} {cc : ByteArray} {nL : Nat} {rt : Option FieldType} {nm : String} {pc : Nat} {q : Fin 4} {i : Nat} (hd : decode cc pc = .ok (.iload_n q, 1)) (hi : (q : Nat) = i) : gx_N g own cc nL rt nm pc (gc_ldI i 1) := gx_easy (fun L st M x h => by
  unfold gc_ldI at h
  split at h
  · rename_i hv
    cases h
    exact ⟨rfl, rfl, fun hC hI _ _ _ _ k => lv_iload_n hC.1 hC.2.1 hd hi (hI.2.2.2.1.2.2.2 _ _ hv) k⟩
  · cases h)
theorem gs_lload {g : gx_T} {own : String} {cc : ByteArray} {nL : Nat} {rt : Option FieldType} {nm : String} {pc : Nat} {i : Nat} (hd : decode cc pc = .ok (.lload i, 2)) : gx_N g own cc nL rt nm pc (gc_ldL i 2) := gx_easy (fun L st M x h => by
  unfold gc_ldL at h
  split at h
  · rename_i hv
    cases h
    exact ⟨rfl, rfl, fun hC hI _ _ _ _ k => lv_lload hC.1 hC.2.1 hd (hI.2.2.2.1.2.2.2 _ _ hv) k⟩
  · cases h)
theorem gs_lload_n {g : gx_T} {own : String} {cc : ByteArray} {nL : Nat} {rt : Option FieldType} {nm : String} {pc : Nat} {q : Fin 4} {i : Nat} (hd : decode cc pc = .ok (.lload_n q, 1)) (hi : (q : Nat) = i) : gx_N g own cc nL rt nm pc (gc_ldL i 1) := gx_easy (fun L st M x h => by
  unfold gc_ldL at h
  split at h
  · rename_i hv
    cases h
    exact ⟨rfl, rfl, fun hC hI _ _ _ _ k => lv_lload_n hC.1 hC.2.1 hd hi (hI.2.2.2.1.2.2.2 _ _ hv) k⟩
  · cases h)
/-- a reference is loaded, whatever it stands for -/
theorem gx_refv (g : gx_T) (k : Nat) : (∃ a, gx_v g (.ref k) = .ref a) ∨ gx_v g (.ref k) = .null := by
  show (∃ a, (if k < 1000000 then Value.ref (gx_b g + k) else va_rf (gx_s g (k - 1000000))) = .ref a) ∨ (if k < 1000000 then Value.ref (gx_b g + k) else va_rf (gx_s g (k - 1000000))) = .null
  split
  · exact Or.inl ⟨_, rfl⟩
  · cases gx_s g (k - 1000000) with
    | none => exact Or.inr rfl
    | some a => exact Or.inl ⟨a, rfl⟩
theorem gs_aload {g : gx_T} {own : String} {cc : ByteArray} {nL : Nat} {rt : Option FieldType} {nm : String} {pc : Nat} {i : Nat} (hd : decode cc pc = .ok (.aload i, 2)) : gx_N g own cc nL rt nm pc (gc_ldA i 2) := gx_easy (fun L st M x h => by
  unfold gc_ldA at h
  split at h
  · rename_i y hv
    cases h
    refine ⟨rfl, rfl, fun hC hI _ _ _ _ k => ?_⟩
    have hl := hI.2.2.2.1.2.2.2 _ _ hv
    rw [List.map_cons] at k
    rcases gx_refv g y with ⟨a, ha⟩ | ha
    · rw [ha] at hl k
      exact lv_aload hC.1 hC.2.1 hd hl k
    · rw [ha] at hl k
      exact lv_aloadN hC.1 hC.2.1 hd hl k
  · cases h)
theorem gs_aload_n {g : gx_T} {own : String} {cc : ByteArray} {nL : Nat} {rt : Option FieldType} {nm : String} {pc : Nat} {q : Fin 4} {i : Nat} (hd : decode cc pc = .ok (.aload_n q, 1)) (hi : (q : Nat) = i) : gx_N g own cc nL rt nm pc (gc_ldA i 1) := gx_easy (fun L st M x h => by
  unfold gc_ldA at h
  split at h
  · rename_i y hv
    cases h
    refine ⟨rfl, rfl, fun hC hI _ _ _ _ k => ?_⟩
    have hl := hI.2.2.2.1.2.2.2 _ _ hv
    rw [List.map_cons] at k
    rcases gx_refv g y with ⟨a, ha⟩ | ha
    · rw [ha] at hl k
      exact lv_aload_n hC.1 hC.2.1 hd hi hl k
    · rw [ha] at hl k
      exact lv_aload_nN hC.1 hC.2.1 hd hi hl k
  · cases h)
theorem gs_istore {g : gx_T} {own : String} {cc : ByteArray} {nL : Nat} {rt : Option FieldType} {nm : String} {pc : Nat} {i : Nat} (hd : decode cc pc = .ok (.istore i, 2)) : gx_N g own cc nL rt nm pc (gc_stI i 2) := gx_loc (fun L st M x h => by
  unfold gc_stI at h
  split at h
  · split at h
    · rename_i hl
      cases h
      exact ⟨rfl, fun hC hI k => lv_istore hC.1 hC.2.1 hd hI.has (by rw [← hI.1]; exact hl) rfl (fun ls1 h1 => k ls1 (hI.set1 h1))⟩
    · cases h
  · cases h)
theorem gs_astore {g : gx_T} {own : String} {cc : ByteArray} {nL : Nat} {rt : Option FieldType} {nm : String} {pc : Nat} {i : Nat} (hd : decode cc pc = .ok (.astore i, 2)) : gx_N g own cc nL rt nm pc (gc_stA i 2) := gx_loc (fun L st M x h => by
  unfold gc_stA at h
  split at h
  · rename_i y r
    split at h
    · rename_i hl
      cases h
      refine ⟨rfl, fun hC hI k => ?_⟩
      have hs := fun ls1 => hI.set1 (ls' := ls1) (i := i) (v := .ref y)
      rw [List.map_cons]
      rcases gx_refv g y with ⟨a, ha⟩ | ha
      · simp only [ha] at hs ⊢
        exact lv_astore hC.1 hC.2.1 hd hI.has (by rw [← hI.1]; exact hl) rfl (fun ls1 h1 => k ls1 (hs ls1 h1))
      · simp only [ha] at hs ⊢
        exact lv_astoreN hC.1 hC.2.1 hd hI.has (by rw [← hI.1]; exact hl) rfl (fun ls1 h1 => k ls1 (hs ls1 h1))
    · cases h
  · cases h)
theorem gs_istore_n {g : gx_T} {own : String} {cc : ByteArray} {nL : Nat} {rt : Option FieldType} {nm : String} {pc : Nat} {q : Fin 4} {i : Nat} (hd : decode cc pc = .ok (.istore_n q, 1)) (hi : (q : Nat) = i) : gx_N g own cc nL rt nm pc (gc_stI i 1) := gx_loc (fun L st M x h => by
  unfold gc_stI at h
  split at h
  · split at h
    · rename_i hl
      cases h
      exact ⟨rfl, fun hC hI k => lv_istore_n hC.1 hC.2.1 hd hi hI.has (by rw [← hI.1]; exact hl) rfl (fun ls1 h1 => k ls1 (hI.set1 h1))⟩
    · cases h
  · cases h)
theorem gs_astore_n {g : gx_T} {own : String} {cc : ByteArray} {nL : Nat} {rt : Option FieldType} {nm : String} {pc : Nat} {q : Fin 4} {i : Nat} (hd : decode cc pc = .ok (.astore_n q, 1)) (hi : (q : Nat) = i) : gx_N g own cc nL rt nm pc (gc_stA i 1) := gx_loc (fun L st M x h => by
  unfold gc_stA at h
  split at h
  · rename_i y r
    split at h
    · rename_i hl
      cases h
      refine ⟨rfl, fun hC hI k => ?_⟩
      have hs := fun ls1 => hI.set1 (ls' := ls1) (i := i) (v := .ref y)
      rw [List.map_cons]
      rcases gx_refv g y with ⟨a, ha⟩ | ha
      · simp only [ha] at hs ⊢
        exact lv_astore_n hC.1 hC.2.1 hd hi hI.has (by rw [← hI.1]; exact hl) rfl (fun ls1 h1 => k ls1 (hs ls1 h1))
      · simp only [ha] at hs ⊢
        exact lv_astore_nN hC.1 hC.2.1 hd hi hI.has (by rw [← hI.1]; exact hl) rfl (fun ls1 h1 => k ls1 (hs ls1 h1))
    · cases h
  · cases h)
theorem gs_iinc {g : gx_T} {own : String} {cc : ByteArray} {nL : Nat} {rt : Option FieldType} {nm : String} {pc : Nat} {i : Nat} {z : Int} (hd : decode cc pc = .ok (.iinc i z, 3)) : gx_N g own cc nL rt nm pc (gc_inc i z) := gx_loc (fun L st M x h => by
  unfold gc_inc at h
  split at h
  · rename_i y hv
    split at h
    · rename_i hl
      cases h
      refine ⟨rfl, fun hC hI k => ?_⟩
      obtain ⟨j, hj⟩ := List.getElem?_of_mem (gx_al_in (g := g) hv)
      exact lv_iinc hC.1 hC.2.1 hd hI.has hj rfl (by rw [← hI.1]; exact hl) rfl (fun ls1 h1 => k ls1 (hI.set1 (v := .int (y + Int32.ofInt z)) h1))
    · cases h
  · cases h)
