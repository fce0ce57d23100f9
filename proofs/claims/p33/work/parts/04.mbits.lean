theorem dX12_bits_0 : decode cX12_bits 0 = .ok (.iconst 0, 1) := by decide +kernel
theorem dX12_bits_1 : decode cX12_bits 1 = .ok (.istore_n 1, 1) := by decide +kernel
theorem dX12_bits_2 : decode cX12_bits 2 = .ok (.iload_n 0, 1) := by decide +kernel
theorem dX12_bits_3 : decode cX12_bits 3 = .ok (.istore_n 2, 1) := by decide +kernel
theorem dX12_bits_4 : decode cX12_bits 4 = .ok (.iload_n 2, 1) := by decide +kernel
theorem dX12_bits_5 : decode cX12_bits 5 = .ok (.ifCond .eq 15, 3) := by decide +kernel
theorem dX12_bits_8 : decode cX12_bits 8 = .ok (.iinc 1 1, 3) := by decide +kernel
theorem dX12_bits_11 : decode cX12_bits 11 = .ok (.iload_n 2, 1) := by decide +kernel
theorem dX12_bits_12 : decode cX12_bits 12 = .ok (.iload_n 2, 1) := by decide +kernel
theorem dX12_bits_13 : decode cX12_bits 13 = .ok (.iconst 1, 1) := by decide +kernel
theorem dX12_bits_14 : decode cX12_bits 14 = .ok (.isub, 1) := by decide +kernel
theorem dX12_bits_15 : decode cX12_bits 15 = .ok (.iand, 1) := by decide +kernel
theorem dX12_bits_16 : decode cX12_bits 16 = .ok (.istore_n 2, 1) := by decide +kernel
theorem dX12_bits_17 : decode cX12_bits 17 = .ok (.goto (-13), 3) := by decide +kernel
theorem dX12_bits_20 : decode cX12_bits 20 = .ok (.iload_n 1, 1) := by decide +kernel
theorem dX12_bits_21 : decode cX12_bits 21 = .ok (.ireturn, 1) := by decide +kernel
theorem dX12_in_0 : decode cX12_in 0 = .ok (.lload_n 0, 1) := by decide +kernel
theorem dX12_in_1 : decode cX12_in 1 = .ok (.lload_n 2, 1) := by decide +kernel
theorem dX12_in_2 : decode cX12_in 2 = .ok (.lcmp, 1) := by decide +kernel
theorem dX12_in_3 : decode cX12_in 3 = .ok (.ifCond .lt 14, 3) := by decide +kernel
theorem dX12_in_6 : decode cX12_in 6 = .ok (.lload_n 0, 1) := by decide +kernel
theorem dX12_in_7 : decode cX12_in 7 = .ok (.lload 4, 2) := by decide +kernel
theorem dX12_in_9 : decode cX12_in 9 = .ok (.lcmp, 1) := by decide +kernel
theorem dX12_in_10 : decode cX12_in 10 = .ok (.ifCond .gt 7, 3) := by decide +kernel
theorem dX12_in_13 : decode cX12_in 13 = .ok (.iconst 1, 1) := by decide +kernel
theorem dX12_in_14 : decode cX12_in 14 = .ok (.goto 4, 3) := by decide +kernel
theorem dX12_in_17 : decode cX12_in 17 = .ok (.iconst 0, 1) := by decide +kernel
theorem dX12_in_18 : decode cX12_in 18 = .ok (.ireturn, 1) := by decide +kernel
theorem dX12_isOf_0 : decode cX12_isOf 0 = .ok (.iload_n 0, 1) := by decide +kernel
theorem dX12_isOf_1 : decode cX12_isOf 1 = .ok (.iload_n 1, 1) := by decide +kernel
theorem dX12_isOf_2 : decode cX12_isOf 2 = .ok (.ishr, 1) := by decide +kernel
theorem dX12_isOf_3 : decode cX12_isOf 3 = .ok (.iconst 1, 1) := by decide +kernel
theorem dX12_isOf_4 : decode cX12_isOf 4 = .ok (.iand, 1) := by decide +kernel
theorem dX12_isOf_5 : decode cX12_isOf 5 = .ok (.iconst 1, 1) := by decide +kernel
theorem dX12_isOf_6 : decode cX12_isOf 6 = .ok (.if_icmp .ne 7, 3) := by decide +kernel
theorem dX12_isOf_9 : decode cX12_isOf 9 = .ok (.iconst 1, 1) := by decide +kernel
theorem dX12_isOf_10 : decode cX12_isOf 10 = .ok (.goto 4, 3) := by decide +kernel
theorem dX12_isOf_13 : decode cX12_isOf 13 = .ok (.iconst 0, 1) := by decide +kernel
theorem dX12_isOf_14 : decode cX12_isOf 14 = .ok (.ireturn, 1) := by decide +kernel
theorem sp_0_4 {x : Int32} (h : bt 0 4 x) : x = 0 ∨ x = 1 ∨ x = 2 ∨ x = 3 ∨ x = 4 := by
  obtain ⟨h1, h2⟩ := h
  have e : ∀ k : Int32, x = k ↔ x.toInt = k.toInt := fun k => Int32.toInt_inj.symm
  simp only [e, show (0 : Int32).toInt = 0 from rfl, show (1 : Int32).toInt = 1 from rfl, show (2 : Int32).toInt = 2 from rfl, show (3 : Int32).toInt = 3 from rfl, show (4 : Int32).toInt = 4 from rfl]
  omega
theorem sp_0_5 {x : Int32} (h : bt 0 5 x) : x = 0 ∨ x = 1 ∨ x = 2 ∨ x = 3 ∨ x = 4 ∨ x = 5 := by
  obtain ⟨h1, h2⟩ := h
  have e : ∀ k : Int32, x = k ↔ x.toInt = k.toInt := fun k => Int32.toInt_inj.symm
  simp only [e, show (0 : Int32).toInt = 0 from rfl, show (1 : Int32).toInt = 1 from rfl, show (2 : Int32).toInt = 2 from rfl, show (3 : Int32).toInt = 3 from rfl, show (4 : Int32).toInt = 4 from rfl, show (5 : Int32).toInt = 5 from rfl]
  omega
theorem sp_0_19 {x : Int32} (h : bt 0 19 x) : x = 0 ∨ x = 1 ∨ x = 2 ∨ x = 3 ∨ x = 4 ∨ x = 5 ∨ x = 6 ∨ x = 7 ∨ x = 8 ∨ x = 9 ∨ x = 10 ∨ x = 11 ∨ x = 12 ∨ x = 13 ∨ x = 14 ∨ x = 15 ∨ x = 16 ∨ x = 17 ∨ x = 18 ∨ x = 19 := by
  obtain ⟨h1, h2⟩ := h
  have e : ∀ k : Int32, x = k ↔ x.toInt = k.toInt := fun k => Int32.toInt_inj.symm
  simp only [e, show (0 : Int32).toInt = 0 from rfl, show (1 : Int32).toInt = 1 from rfl, show (2 : Int32).toInt = 2 from rfl, show (3 : Int32).toInt = 3 from rfl, show (4 : Int32).toInt = 4 from rfl, show (5 : Int32).toInt = 5 from rfl, show (6 : Int32).toInt = 6 from rfl, show (7 : Int32).toInt = 7 from rfl, show (8 : Int32).toInt = 8 from rfl, show (9 : Int32).toInt = 9 from rfl, show (10 : Int32).toInt = 10 from rfl, show (11 : Int32).toInt = 11 from rfl, show (12 : Int32).toInt = 12 from rfl, show (13 : Int32).toInt = 13 from rfl, show (14 : Int32).toInt = 14 from rfl, show (15 : Int32).toInt = 15 from rfl, show (16 : Int32).toInt = 16 from rfl, show (17 : Int32).toInt = 17 from rfl, show (18 : Int32).toInt = 18 from rfl, show (19 : Int32).toInt = 19 from rfl]
  omega
theorem sp_1_4 {x : Int32} (h : bt 1 4 x) : x = 1 ∨ x = 2 ∨ x = 3 ∨ x = 4 := by
  obtain ⟨h1, h2⟩ := h
  have e : ∀ k : Int32, x = k ↔ x.toInt = k.toInt := fun k => Int32.toInt_inj.symm
  simp only [e, show (1 : Int32).toInt = 1 from rfl, show (2 : Int32).toInt = 2 from rfl, show (3 : Int32).toInt = 3 from rfl, show (4 : Int32).toInt = 4 from rfl]
  omega
theorem sw_0_13 (x : Int32) : x = 0 ∨ x = 1 ∨ x = 2 ∨ x = 3 ∨ x = 4 ∨ x = 5 ∨ x = 6 ∨ x = 7 ∨ x = 8 ∨ x = 9 ∨ x = 10 ∨ x = 11 ∨ x = 12 ∨ x = 13 ∨ (x.toInt < 0 ∨ 13 < x.toInt) := by
  have e : ∀ k : Int32, x = k ↔ x.toInt = k.toInt := fun k => Int32.toInt_inj.symm
  simp only [e, show (0 : Int32).toInt = 0 from rfl, show (1 : Int32).toInt = 1 from rfl, show (2 : Int32).toInt = 2 from rfl, show (3 : Int32).toInt = 3 from rfl, show (4 : Int32).toInt = 4 from rfl, show (5 : Int32).toInt = 5 from rfl, show (6 : Int32).toInt = 6 from rfl, show (7 : Int32).toInt = 7 from rfl, show (8 : Int32).toInt = 8 from rfl, show (9 : Int32).toInt = 9 from rfl, show (10 : Int32).toInt = 10 from rfl, show (11 : Int32).toInt = 11 from rfl, show (12 : Int32).toInt = 12 from rfl, show (13 : Int32).toInt = 13 from rfl]
  omega
theorem sw_2_14 (x : Int32) : x = 2 ∨ x = 3 ∨ x = 4 ∨ x = 5 ∨ x = 6 ∨ x = 7 ∨ x = 8 ∨ x = 9 ∨ x = 10 ∨ x = 11 ∨ x = 12 ∨ x = 13 ∨ x = 14 ∨ (x.toInt < 2 ∨ 14 < x.toInt) := by
  have e : ∀ k : Int32, x = k ↔ x.toInt = k.toInt := fun k => Int32.toInt_inj.symm
  simp only [e, show (2 : Int32).toInt = 2 from rfl, show (3 : Int32).toInt = 3 from rfl, show (4 : Int32).toInt = 4 from rfl, show (5 : Int32).toInt = 5 from rfl, show (6 : Int32).toInt = 6 from rfl, show (7 : Int32).toInt = 7 from rfl, show (8 : Int32).toInt = 8 from rfl, show (9 : Int32).toInt = 9 from rfl, show (10 : Int32).toInt = 10 from rfl, show (11 : Int32).toInt = 11 from rfl, show (12 : Int32).toInt = 12 from rfl, show (13 : Int32).toInt = 13 from rfl, show (14 : Int32).toInt = 14 from rfl]
  omega
theorem sw_10_20 (x : Int32) : x = 10 ∨ x = 11 ∨ x = 12 ∨ x = 13 ∨ x = 14 ∨ x = 15 ∨ x = 16 ∨ x = 17 ∨ x = 18 ∨ x = 19 ∨ x = 20 ∨ (x.toInt < 10 ∨ 20 < x.toInt) := by
  have e : ∀ k : Int32, x = k ↔ x.toInt = k.toInt := fun k => Int32.toInt_inj.symm
  simp only [e, show (10 : Int32).toInt = 10 from rfl, show (11 : Int32).toInt = 11 from rfl, show (12 : Int32).toInt = 12 from rfl, show (13 : Int32).toInt = 13 from rfl, show (14 : Int32).toInt = 14 from rfl, show (15 : Int32).toInt = 15 from rfl, show (16 : Int32).toInt = 16 from rfl, show (17 : Int32).toInt = 17 from rfl, show (18 : Int32).toInt = 18 from rfl, show (19 : Int32).toInt = 19 from rfl, show (20 : Int32).toInt = 20 from rfl]
  omega
theorem sw_37_47 (x : Int32) : x = 37 ∨ x = 38 ∨ x = 39 ∨ x = 40 ∨ x = 41 ∨ x = 42 ∨ x = 43 ∨ x = 44 ∨ x = 45 ∨ x = 46 ∨ x = 47 ∨ (x.toInt < 37 ∨ 47 < x.toInt) := by
  have e : ∀ k : Int32, x = k ↔ x.toInt = k.toInt := fun k => Int32.toInt_inj.symm
  simp only [e, show (37 : Int32).toInt = 37 from rfl, show (38 : Int32).toInt = 38 from rfl, show (39 : Int32).toInt = 39 from rfl, show (40 : Int32).toInt = 40 from rfl, show (41 : Int32).toInt = 41 from rfl, show (42 : Int32).toInt = 42 from rfl, show (43 : Int32).toInt = 43 from rfl, show (44 : Int32).toInt = 44 from rfl, show (45 : Int32).toInt = 45 from rfl, show (46 : Int32).toInt = 46 from rfl, show (47 : Int32).toInt = 47 from rfl]
  omega

/-! the other side's rows -/
def tlo (j : Nat) : Int := if j < 4 then 0 else if j = 11 then -1 else if 38 ≤ j ∧ j ≤ 45 then 0 else if 59 ≤ j then 0 else -2147483648
def thi (j : Nat) : Int := if j = 0 then 1 else if j = 1 then 6 else if j = 2 then 8 else if j = 3 then 5 else if j = 11 then 7 else if 38 ≤ j ∧ j ≤ 45 then 7 else if 59 ≤ j ∧ j ≤ 98 then 60 else if j = 99 then 10 else 2147483647
def TD (t0 t1 t2 t3 : Int32) (f : Nat → Int32) : Prop := f 0 = t0 ∧ f 1 = t1 ∧ f 2 = t2 ∧ f 3 = t3 ∧ ∀ j : Nat, j < 100 → bt (tlo j) (thi j) (f j)
section
variable {t0 t1 t2 t3 x y z v : Int32} {f g : Nat → Int32} {lo hi b c d a1 b1 : Int} {a n : Nat}
theorem bt_no2 {a b c d : Int} (h : bt a b x) (g : bt c d x) (s : b < c ∨ d < a) : False := by
  obtain ⟨h1, h2⟩ := h
  obtain ⟨h3, h4⟩ := g
  omega
theorem bt_addb1 {a b c d k1 k2 : Int} (e : y = x + z) (hy : bt a b y) (hx : bt c d x) (hz : bt k1 k2 z) (s : -2147483648 ≤ c + k1 ∧ d + k2 ≤ 2147483647 ∧ (lo ≤ c ∨ lo ≤ a - k2) ∧ (d ≤ hi ∨ b - k1 ≤ hi)) : bt lo hi x := by
  have h := add_eq e hx hz ⟨s.1, s.2.1⟩
  obtain ⟨h1, h2⟩ := hx
  obtain ⟨h3, h4⟩ := hz
  obtain ⟨h5, h6⟩ := hy
  constructor <;> omega
theorem bt_addb2 {a b c d k1 k2 : Int} (e : y = z + x) (hy : bt a b y) (hx : bt c d x) (hz : bt k1 k2 z) (s : -2147483648 ≤ c + k1 ∧ d + k2 ≤ 2147483647 ∧ (lo ≤ c ∨ lo ≤ a - k2) ∧ (d ≤ hi ∨ b - k1 ≤ hi)) : bt lo hi x := by
  have h := add_eq e hz hx (by omega)
  obtain ⟨h1, h2⟩ := hx
  obtain ⟨h3, h4⟩ := hz
  obtain ⟨h5, h6⟩ := hy
  constructor <;> omega
theorem td_0 (h : TD t0 t1 t2 t3 f) : f (Int32.toNatClampNeg 0) = t0 := h.1
theorem td_1 (h : TD t0 t1 t2 t3 f) : f (Int32.toNatClampNeg 1) = t1 := h.2.1
theorem td_2 (h : TD t0 t1 t2 t3 f) : f (Int32.toNatClampNeg 2) = t2 := h.2.2.1
theorem td_3 (h : TD t0 t1 t2 t3 f) : f (Int32.toNatClampNeg 3) = t3 := h.2.2.2.1
theorem clampN (h : 0 ≤ x.toInt) : (x.toNatClampNeg : Int) = x.toInt := by
  obtain ⟨j, hj, ex, tx⟩ := nI_pos_of h
  rw [tx, ex, nI_clamp hj]
theorem all_at {P : Nat → Prop} [DecidablePred P] {n : Nat} (h : (List.range n).all (fun i => decide (P i)) = true) {i : Nat} (hi : i < n) : P i := by
  have := List.all_eq_true.mp h i (List.mem_range.mpr hi)
  exact of_decide_eq_true this
theorem upd_keep {K : Int32} (p : y = f K.toNatClampNeg) (e : g = upd f x.toNatClampNeg v) (hx : bt a1 b1 x) (s : 0 ≤ a1 ∧ 0 ≤ K.toInt ∧ (K.toInt < a1 ∨ b1 < K.toInt)) : y = g K.toNatClampNeg := by
  obtain ⟨h1, h2⟩ := hx
  have c1 := clampN (x := x) (by omega)
  have c2 := clampN (x := K) s.2.1
  rw [e, pk_un (by omega)]; exact p
theorem td_ld (h : TD t0 t1 t2 t3 f) (e : y = f x.toNatClampNeg) (hx : bt a1 b1 x) (s1 : a1 = (a : Int) ∧ b1 < (a : Int) + (n : Int) ∧ a + n ≤ 100) (s : (List.range n).all (fun i => decide (lo ≤ tlo (a + i) ∧ thi (a + i) ≤ hi)) = true) : bt lo hi y := by
  obtain ⟨h1, h2⟩ := hx
  obtain ⟨s1, s2, s3⟩ := s1
  have hc := clampN (x := x) (by omega)
  have hi : x.toNatClampNeg = a + (x.toNatClampNeg - a) := by omega
  have g := h.2.2.2.2 x.toNatClampNeg (by omega)
  rw [← e] at g
  have q := all_at s (i := x.toNatClampNeg - a) (by omega)
  rw [← hi] at q
  exact bt_w g q
theorem td_st (h : TD t0 t1 t2 t3 f) (e : g = upd f x.toNatClampNeg v) (hx : bt a1 b1 x) (hv : bt c d v) (s1 : a1 = (a : Int) ∧ b1 < (a : Int) + (n : Int) ∧ a + n ≤ 100 ∧ 4 ≤ a) (s : (List.range n).all (fun i => decide (tlo (a + i) ≤ c ∧ d ≤ thi (a + i))) = true) : TD t0 t1 t2 t3 g := by
  obtain ⟨h1, h2⟩ := hx
  obtain ⟨s1, s2, s3, s4⟩ := s1
  have hc := clampN (x := x) (by omega)
  have hi : x.toNatClampNeg = a + (x.toNatClampNeg - a) := by omega
  have q := all_at s (i := x.toNatClampNeg - a) (by omega)
  rw [← hi] at q
  have keep : ∀ j : Nat, j < 4 → g j = f j := fun j hj => by rw [e]; exact pk_un (by omega)
  refine ⟨(keep 0 (by decide)).trans h.1, (keep 1 (by decide)).trans h.2.1, (keep 2 (by decide)).trans h.2.2.1, (keep 3 (by decide)).trans h.2.2.2.1, fun j hj => ?_⟩
  by_cases hj2 : j = x.toNatClampNeg
  · rw [e, hj2, pk_us]; exact bt_w hv q
  · rw [e, pk_un hj2]; exact h.2.2.2.2 j hj
theorem in_bt {u v w : Int64} {x : Int32} (h : v ≤ u ∧ u ≤ w) (e : u = x.toInt64) (s : lo ≤ v.toInt ∧ w.toInt ≤ hi) : bt lo hi x := by
  obtain ⟨h1, h2⟩ := h
  rw [e] at h1 h2
  have h1 := Int64.le_iff_toInt_le.mp h1
  have h2 := Int64.le_iff_toInt_le.mp h2
  rw [Int32.toInt_toInt64] at h1 h2
  exact ⟨Int.le_trans s.1 h1, Int.le_trans h2 s.2⟩
theorem l_nz {u : Int64} (e : u = x.toInt64) (h : bt c d x) (s : 0 < c ∨ d < 0) : ¬ u = 0 := by
  intro q
  obtain ⟨h1, h2⟩ := h
  rw [e] at q
  have : x.toInt = 0 := by rw [← Int32.toInt_toInt64, q]; rfl
  omega
theorem in_ge {u v : Int64} {q : Int32} (e : q = lg_cmp u v) (h : ¬ q < 0) : v ≤ u := by
  rw [e] at h
  exact (lg_cmp_ge u v).mp (Int32.not_lt.mp h)
theorem in_le {u v : Int64} {q : Int32} (e : q = lg_cmp u v) (h : ¬ 0 < q) : u ≤ v := by
  rw [e] at h
  exact (lg_cmp_le u v).mp (Int32.not_lt.mp h)
theorem bits_fall {s t y : Int32} {n : Nat} (e1 : t = s - 1) (e2 : y = s &&& t) (h : ¬ s = 0) (hm : s.toBitVec.toNat < n + 1) : y.toBitVec.toNat < n := by
  have h0 : s.toBitVec.toNat ≠ 0 := fun q => h (Int32.toBitVec_inj.mp (BitVec.eq_of_toNat_eq (by rw [q]; rfl)))
  have h1 : t.toBitVec.toNat = s.toBitVec.toNat - 1 := by
    rw [e1, Int32.toBitVec_sub, BitVec.toNat_sub]
    have := s.toBitVec.isLt
    show (2 ^ 32 - 1 + s.toBitVec.toNat) % 2 ^ 32 = _
    omega
  have h2 : y.toBitVec.toNat ≤ t.toBitVec.toNat := by
    rw [e2, Int32.toBitVec_and, BitVec.toNat_and]; exact Nat.and_le_right
  omega
end
set_option maxHeartbeats 4000000 in
set_option maxRecDepth 100000 in
/-- m_in_0 -/
theorem m_in_0 (l : Launch) (dC : Nat → ClassId) (dI : Nat → Nat → Nat) (sz : Nat) : Met l yX12_in (.code yX12_in cX12_in 6 (some .boolean) :: wsA) ({ frames := 0, cells := 0, slots := 0, locals := 0 }) (va_Pc [.long 0, .long 0, .long 3] (fun U => U.heap.size = sz ∧ va_P (dC, dI) classes [] U.heap ∧ va_K (dC, dI) classes [] U ∧ va_D (fun _ => True) [] ∧ xE U)) (va_Qi (fun (r : Int32) (_ : Unit) => r = 1) (fun _ t => va_P (dC, dI) classes [] t.heap ∧ va_K (dC, dI) classes [] t ∧ va_D (va_A [] sz) []) (va_A [] sz)) 0 0 (va_A [] sz) := by
  refine Met.ofW (cc := cX12_in) (maxL := 6) (ret := (some .boolean)) (by decide) rfl ?_
  intro p e s m args below meth c s₁ B hml hv
  obtain ⟨rfl, hsz, hP, hK, hD0, hE⟩ := hv
  have hx := B.exec
  have hb := B.bytes
  have hr := B.returns
  have hts := atoms_spec (ws := .code yX12_in cX12_in 6 (some .boolean) :: wsA) B.pre
  have hq : ∀ w ∈ wsA, w.before _ s = true := fun w h => hts w (List.mem_cons_of_mem _ h)
  have hown : s.vm.findClass RX12 = some m.cls := findClass_of_methodNamed B.named
  have hlocks := B.notSynchronized
  subst hsz
  have hD := hD0.self (sz := s.heap.size)
  generalize hAe : va_A [] s.heap.size = A at hD ⊢
  have hA : ∀ q : Nat, s.heap.size ≤ q → A q := fun q h => by rw [← hAe]; exact Or.inr h
  have hS : va_S A s.heap s.heap [] := va_S.rf
  have hl := lv_entry ([.long 0, .long 0, .long 3]) (n := 6) (Nat.le_of_ble_eq_true rfl)
  rw [lg_entry_eq]
  generalize (lg_sl ([.long 0, .long 0, .long 3]) ++ List.replicate (6 - (lg_sl ([.long 0, .long 0, .long 3])).length) Slot.unset).toArray = ls at hl ⊢
  have hl : lv_has ls 6 [(0, .long 0), (2, .long 0), (4, .long 3)] := hl
  refine lv_lload_n hx hb dX12_in_0 rfl (lv_at hl 0 rfl) ?_
  refine lv_lload_n hx hb dX12_in_1 rfl (lv_at hl 1 rfl) ?_
  refine W.lcmp hx hb dX12_in_2 ?_
  refine lv_topi (fun y_3 ey_3 => ?_)
  obtain rfl : y_3 = 0 := ey_3.trans (by decide)
  refine lv_if_lt (tgt := 17) hx hb dX12_in_3 (by decide) (fun c9 => absurd c9 (by decide)) (fun _ => ?_)
  refine lv_lload_n hx hb dX12_in_6 rfl (lv_at hl 0 rfl) ?_
  refine lv_lload hx hb dX12_in_7 (lv_at hl 2 rfl) ?_
  refine W.lcmp hx hb dX12_in_9 ?_
  refine lv_topi (fun y_5 ey_5 => ?_)
  obtain rfl : y_5 = (-1) := ey_5.trans (by decide)
  refine lv_if_gt (tgt := 17) hx hb dX12_in_10 (by decide) (fun c9 => absurd c9 (by decide)) (fun _ => ?_)
  refine lv_iconst (v := 1) hx hb dX12_in_13 (by decide) ?_
  refine lv_goto (tgt := 18) hx hb dX12_in_14 (by decide) ?_
  refine W.widen (k := 0) (n := 0) (Nat.le_of_ble_eq_true rfl) (Nat.le_of_ble_eq_true rfl) ?_
  exact W.zret (v := 1) hx hb hr (by decide) (fun t ht hW => ⟨⟨1, (), rfl, rfl, by rw [ht]; exact hP, va_K.moved hW.alike hK, hD⟩, hS.F ht⟩) hS.2.2 dX12_in_18

set_option maxHeartbeats 4000000 in
set_option maxRecDepth 100000 in
/-- m_in_1 -/
theorem m_in_1 (l : Launch) (dC : Nat → ClassId) (dI : Nat → Nat → Nat) (sz : Nat) : Met l yX12_in (.code yX12_in cX12_in 6 (some .boolean) :: wsA) ({ frames := 0, cells := 0, slots := 0, locals := 0 }) (va_Pc [.long 1, .long 0, .long 3] (fun U => U.heap.size = sz ∧ va_P (dC, dI) classes [] U.heap ∧ va_K (dC, dI) classes [] U ∧ va_D (fun _ => True) [] ∧ xE U)) (va_Qi (fun (r : Int32) (_ : Unit) => r = 1) (fun _ t => va_P (dC, dI) classes [] t.heap ∧ va_K (dC, dI) classes [] t ∧ va_D (va_A [] sz) []) (va_A [] sz)) 0 0 (va_A [] sz) := by
  refine Met.ofW (cc := cX12_in) (maxL := 6) (ret := (some .boolean)) (by decide) rfl ?_
  intro p e s m args below meth c s₁ B hml hv
  obtain ⟨rfl, hsz, hP, hK, hD0, hE⟩ := hv
  have hx := B.exec
  have hb := B.bytes
  have hr := B.returns
  have hts := atoms_spec (ws := .code yX12_in cX12_in 6 (some .boolean) :: wsA) B.pre
  have hq : ∀ w ∈ wsA, w.before _ s = true := fun w h => hts w (List.mem_cons_of_mem _ h)
  have hown : s.vm.findClass RX12 = some m.cls := findClass_of_methodNamed B.named
  have hlocks := B.notSynchronized
  subst hsz
  have hD := hD0.self (sz := s.heap.size)
  generalize hAe : va_A [] s.heap.size = A at hD ⊢
  have hA : ∀ q : Nat, s.heap.size ≤ q → A q := fun q h => by rw [← hAe]; exact Or.inr h
  have hS : va_S A s.heap s.heap [] := va_S.rf
  have hl := lv_entry ([.long 1, .long 0, .long 3]) (n := 6) (Nat.le_of_ble_eq_true rfl)
  rw [lg_entry_eq]
  generalize (lg_sl ([.long 1, .long 0, .long 3]) ++ List.replicate (6 - (lg_sl ([.long 1, .long 0, .long 3])).length) Slot.unset).toArray = ls at hl ⊢
  have hl : lv_has ls 6 [(0, .long 1), (2, .long 0), (4, .long 3)] := hl
  refine lv_lload_n hx hb dX12_in_0 rfl (lv_at hl 0 rfl) ?_
  refine lv_lload_n hx hb dX12_in_1 rfl (lv_at hl 1 rfl) ?_
  refine W.lcmp hx hb dX12_in_2 ?_
  refine lv_topi (fun y_3 ey_3 => ?_)
  obtain rfl : y_3 = 1 := ey_3.trans (by decide)
  refine lv_if_lt (tgt := 17) hx hb dX12_in_3 (by decide) (fun c9 => absurd c9 (by decide)) (fun _ => ?_)
  refine lv_lload_n hx hb dX12_in_6 rfl (lv_at hl 0 rfl) ?_
  refine lv_lload hx hb dX12_in_7 (lv_at hl 2 rfl) ?_
  refine W.lcmp hx hb dX12_in_9 ?_
  refine lv_topi (fun y_5 ey_5 => ?_)
  obtain rfl : y_5 = (-1) := ey_5.trans (by decide)
  refine lv_if_gt (tgt := 17) hx hb dX12_in_10 (by decide) (fun c9 => absurd c9 (by decide)) (fun _ => ?_)
  refine lv_iconst (v := 1) hx hb dX12_in_13 (by decide) ?_
  refine lv_goto (tgt := 18) hx hb dX12_in_14 (by decide) ?_
  refine W.widen (k := 0) (n := 0) (Nat.le_of_ble_eq_true rfl) (Nat.le_of_ble_eq_true rfl) ?_
  exact W.zret (v := 1) hx hb hr (by decide) (fun t ht hW => ⟨⟨1, (), rfl, rfl, by rw [ht]; exact hP, va_K.moved hW.alike hK, hD⟩, hS.F ht⟩) hS.2.2 dX12_in_18

set_option maxHeartbeats 4000000 in
set_option maxRecDepth 100000 in
/-- m_in_2 -/
theorem m_in_2 (l : Launch) (dC : Nat → ClassId) (dI : Nat → Nat → Nat) (sz : Nat) : Met l yX12_in (.code yX12_in cX12_in 6 (some .boolean) :: wsA) ({ frames := 0, cells := 0, slots := 0, locals := 0 }) (va_Pc [.long 2, .long 0, .long 3] (fun U => U.heap.size = sz ∧ va_P (dC, dI) classes [] U.heap ∧ va_K (dC, dI) classes [] U ∧ va_D (fun _ => True) [] ∧ xE U)) (va_Qi (fun (r : Int32) (_ : Unit) => r = 1) (fun _ t => va_P (dC, dI) classes [] t.heap ∧ va_K (dC, dI) classes [] t ∧ va_D (va_A [] sz) []) (va_A [] sz)) 0 0 (va_A [] sz) := by
  refine Met.ofW (cc := cX12_in) (maxL := 6) (ret := (some .boolean)) (by decide) rfl ?_
  intro p e s m args below meth c s₁ B hml hv
  obtain ⟨rfl, hsz, hP, hK, hD0, hE⟩ := hv
  have hx := B.exec
  have hb := B.bytes
  have hr := B.returns
  have hts := atoms_spec (ws := .code yX12_in cX12_in 6 (some .boolean) :: wsA) B.pre
  have hq : ∀ w ∈ wsA, w.before _ s = true := fun w h => hts w (List.mem_cons_of_mem _ h)
  have hown : s.vm.findClass RX12 = some m.cls := findClass_of_methodNamed B.named
  have hlocks := B.notSynchronized
  subst hsz
  have hD := hD0.self (sz := s.heap.size)
  generalize hAe : va_A [] s.heap.size = A at hD ⊢
  have hA : ∀ q : Nat, s.heap.size ≤ q → A q := fun q h => by rw [← hAe]; exact Or.inr h
  have hS : va_S A s.heap s.heap [] := va_S.rf
  have hl := lv_entry ([.long 2, .long 0, .long 3]) (n := 6) (Nat.le_of_ble_eq_true rfl)
  rw [lg_entry_eq]
  generalize (lg_sl ([.long 2, .long 0, .long 3]) ++ List.replicate (6 - (lg_sl ([.long 2, .long 0, .long 3])).length) Slot.unset).toArray = ls at hl ⊢
  have hl : lv_has ls 6 [(0, .long 2), (2, .long 0), (4, .long 3)] := hl
  refine lv_lload_n hx hb dX12_in_0 rfl (lv_at hl 0 rfl) ?_
  refine lv_lload_n hx hb dX12_in_1 rfl (lv_at hl 1 rfl) ?_
  refine W.lcmp hx hb dX12_in_2 ?_
  refine lv_topi (fun y_3 ey_3 => ?_)
  obtain rfl : y_3 = 1 := ey_3.trans (by decide)
  refine lv_if_lt (tgt := 17) hx hb dX12_in_3 (by decide) (fun c9 => absurd c9 (by decide)) (fun _ => ?_)
  refine lv_lload_n hx hb dX12_in_6 rfl (lv_at hl 0 rfl) ?_
  refine lv_lload hx hb dX12_in_7 (lv_at hl 2 rfl) ?_
  refine W.lcmp hx hb dX12_in_9 ?_
  refine lv_topi (fun y_5 ey_5 => ?_)
  obtain rfl : y_5 = (-1) := ey_5.trans (by decide)
  refine lv_if_gt (tgt := 17) hx hb dX12_in_10 (by decide) (fun c9 => absurd c9 (by decide)) (fun _ => ?_)
  refine lv_iconst (v := 1) hx hb dX12_in_13 (by decide) ?_
  refine lv_goto (tgt := 18) hx hb dX12_in_14 (by decide) ?_
  refine W.widen (k := 0) (n := 0) (Nat.le_of_ble_eq_true rfl) (Nat.le_of_ble_eq_true rfl) ?_
  exact W.zret (v := 1) hx hb hr (by decide) (fun t ht hW => ⟨⟨1, (), rfl, rfl, by rw [ht]; exact hP, va_K.moved hW.alike hK, hD⟩, hS.F ht⟩) hS.2.2 dX12_in_18

set_option maxHeartbeats 4000000 in
set_option maxRecDepth 100000 in
/-- m_in_3 -/
theorem m_in_3 (l : Launch) (dC : Nat → ClassId) (dI : Nat → Nat → Nat) (sz : Nat) : Met l yX12_in (.code yX12_in cX12_in 6 (some .boolean) :: wsA) ({ frames := 0, cells := 0, slots := 0, locals := 0 }) (va_Pc [.long 3, .long 0, .long 3] (fun U => U.heap.size = sz ∧ va_P (dC, dI) classes [] U.heap ∧ va_K (dC, dI) classes [] U ∧ va_D (fun _ => True) [] ∧ xE U)) (va_Qi (fun (r : Int32) (_ : Unit) => r = 1) (fun _ t => va_P (dC, dI) classes [] t.heap ∧ va_K (dC, dI) classes [] t ∧ va_D (va_A [] sz) []) (va_A [] sz)) 0 0 (va_A [] sz) := by
  refine Met.ofW (cc := cX12_in) (maxL := 6) (ret := (some .boolean)) (by decide) rfl ?_
  intro p e s m args below meth c s₁ B hml hv
  obtain ⟨rfl, hsz, hP, hK, hD0, hE⟩ := hv
  have hx := B.exec
  have hb := B.bytes
  have hr := B.returns
  have hts := atoms_spec (ws := .code yX12_in cX12_in 6 (some .boolean) :: wsA) B.pre
  have hq : ∀ w ∈ wsA, w.before _ s = true := fun w h => hts w (List.mem_cons_of_mem _ h)
  have hown : s.vm.findClass RX12 = some m.cls := findClass_of_methodNamed B.named
  have hlocks := B.notSynchronized
  subst hsz
  have hD := hD0.self (sz := s.heap.size)
  generalize hAe : va_A [] s.heap.size = A at hD ⊢
  have hA : ∀ q : Nat, s.heap.size ≤ q → A q := fun q h => by rw [← hAe]; exact Or.inr h
  have hS : va_S A s.heap s.heap [] := va_S.rf
  have hl := lv_entry ([.long 3, .long 0, .long 3]) (n := 6) (Nat.le_of_ble_eq_true rfl)
  rw [lg_entry_eq]
  generalize (lg_sl ([.long 3, .long 0, .long 3]) ++ List.replicate (6 - (lg_sl ([.long 3, .long 0, .long 3])).length) Slot.unset).toArray = ls at hl ⊢
  have hl : lv_has ls 6 [(0, .long 3), (2, .long 0), (4, .long 3)] := hl
  refine lv_lload_n hx hb dX12_in_0 rfl (lv_at hl 0 rfl) ?_
  refine lv_lload_n hx hb dX12_in_1 rfl (lv_at hl 1 rfl) ?_
  refine W.lcmp hx hb dX12_in_2 ?_
  refine lv_topi (fun y_3 ey_3 => ?_)
  obtain rfl : y_3 = 1 := ey_3.trans (by decide)
  refine lv_if_lt (tgt := 17) hx hb dX12_in_3 (by decide) (fun c9 => absurd c9 (by decide)) (fun _ => ?_)
  refine lv_lload_n hx hb dX12_in_6 rfl (lv_at hl 0 rfl) ?_
  refine lv_lload hx hb dX12_in_7 (lv_at hl 2 rfl) ?_
  refine W.lcmp hx hb dX12_in_9 ?_
  refine lv_topi (fun y_5 ey_5 => ?_)
  obtain rfl : y_5 = 0 := ey_5.trans (by decide)
  refine lv_if_gt (tgt := 17) hx hb dX12_in_10 (by decide) (fun c9 => absurd c9 (by decide)) (fun _ => ?_)
  refine lv_iconst (v := 1) hx hb dX12_in_13 (by decide) ?_
  refine lv_goto (tgt := 18) hx hb dX12_in_14 (by decide) ?_
  refine W.widen (k := 0) (n := 0) (Nat.le_of_ble_eq_true rfl) (Nat.le_of_ble_eq_true rfl) ?_
  exact W.zret (v := 1) hx hb hr (by decide) (fun t ht hW => ⟨⟨1, (), rfl, rfl, by rw [ht]; exact hP, va_K.moved hW.alike hK, hD⟩, hS.F ht⟩) hS.2.2 dX12_in_18

set_option maxHeartbeats 4000000 in
set_option maxRecDepth 100000 in
/-- m_in -/
theorem m_in (l : Launch) (dC : Nat → ClassId) (dI : Nat → Nat → Nat) (sz : Nat) (z0 : Int64) (z1 : Int64) (z2 : Int64) : Met l yX12_in (.code yX12_in cX12_in 6 (some .boolean) :: wsA) ({ frames := 0, cells := 0, slots := 0, locals := 0 }) (va_Pc [.long z0, .long z1, .long z2] (fun U => U.heap.size = sz ∧ va_P (dC, dI) classes [] U.heap ∧ va_K (dC, dI) classes [] U ∧ va_D (fun _ => True) [] ∧ xE U)) (va_Qi (fun (r : Int32) (u : Int32) => r = u ∧ True) (fun u t => (¬ u = 0 → z1 ≤ z0 ∧ z0 ≤ z2) ∧ va_P (dC, dI) classes [] t.heap ∧ va_K (dC, dI) classes [] t ∧ va_D (va_A [] sz) []) (va_A [] sz)) 0 0 (va_A [] sz) := by
  refine Met.ofW (cc := cX12_in) (maxL := 6) (ret := (some .boolean)) (by decide) rfl ?_
  intro p e s m args below meth c s₁ B hml hv
  obtain ⟨rfl, hsz, hP, hK, hD0, hE⟩ := hv
  have hx := B.exec
  have hb := B.bytes
  have hr := B.returns
  have hts := atoms_spec (ws := .code yX12_in cX12_in 6 (some .boolean) :: wsA) B.pre
  have hq : ∀ w ∈ wsA, w.before _ s = true := fun w h => hts w (List.mem_cons_of_mem _ h)
  have hown : s.vm.findClass RX12 = some m.cls := findClass_of_methodNamed B.named
  have hlocks := B.notSynchronized
  subst hsz
  have hD := hD0.self (sz := s.heap.size)
  generalize hAe : va_A [] s.heap.size = A at hD ⊢
  have hA : ∀ q : Nat, s.heap.size ≤ q → A q := fun q h => by rw [← hAe]; exact Or.inr h
  have hS : va_S A s.heap s.heap [] := va_S.rf
  have hl := lv_entry ([.long z0, .long z1, .long z2]) (n := 6) (Nat.le_of_ble_eq_true rfl)
  rw [lg_entry_eq]
  generalize (lg_sl ([.long z0, .long z1, .long z2]) ++ List.replicate (6 - (lg_sl ([.long z0, .long z1, .long z2])).length) Slot.unset).toArray = ls at hl ⊢
  have hl : lv_has ls 6 [(0, .long z0), (2, .long z1), (4, .long z2)] := hl
  refine lv_lload_n hx hb dX12_in_0 rfl (lv_at hl 0 rfl) ?_
  refine lv_lload_n hx hb dX12_in_1 rfl (lv_at hl 1 rfl) ?_
  refine W.lcmp hx hb dX12_in_2 ?_
  refine lv_topi (fun y_5 ey_5 => ?_)
  refine W.cut (I := fun H locs g => ∃ (ls : Array Slot), va_P (dC, dI) classes [] H ∧ va_D A [] ∧ va_S A s.heap H locs ∧ lv_has ls 6 [] ∧ g = F0 m 17 ls []) (fun H locs g h => ?_) (fun hJ17 => ?_)
  · obtain ⟨ls, hP, hD, hS, hl, rfl⟩ := h
    refine lv_iconst (v := 0) hx hb dX12_in_17 (by decide) ?_
    have p_9 : ¬ (0 : Int32) = 0 → z1 ≤ z0 ∧ z0 ≤ z2 := fun h9 => absurd rfl h9
    refine W.widen (k := 0) (n := 0) (Nat.le_of_ble_eq_true rfl) (Nat.le_of_ble_eq_true rfl) ?_
    exact W.zret (v := 0) hx hb hr (by decide) (fun t ht hW => ⟨⟨0, 0, rfl, ⟨rfl, trivial⟩, p_9, by rw [ht]; exact hP, va_K.moved hW.alike hK, hD⟩, hS.F ht⟩) hS.2.2 dX12_in_18
  refine lv_if_lt (tgt := 17) hx hb dX12_in_3 (by decide) (fun c_10 => ?_) (fun c_10 => ?_)
  · exact hJ17 _ _ _ ⟨_, hP, hD, hS, (lv_sub hl [] rfl), rfl⟩
  · refine lv_lload_n hx hb dX12_in_6 rfl (lv_at hl 0 rfl) ?_
    refine lv_lload hx hb dX12_in_7 (lv_at hl 2 rfl) ?_
    refine W.lcmp hx hb dX12_in_9 ?_
    refine lv_topi (fun y_11 ey_11 => ?_)
    refine lv_if_gt (tgt := 17) hx hb dX12_in_10 (by decide) (fun c_12 => ?_) (fun c_12 => ?_)
    · exact hJ17 _ _ _ ⟨_, hP, hD, hS, (lv_sub hl [] rfl), rfl⟩
    · refine lv_iconst (v := 1) hx hb dX12_in_13 (by decide) ?_
      refine lv_goto (tgt := 18) hx hb dX12_in_14 (by decide) ?_
      have p_13 : ¬ (1 : Int32) = 0 → z1 ≤ z0 ∧ z0 ≤ z2 := fun _ => ⟨in_ge ey_5 c_10, in_le ey_11 c_12⟩
      refine W.widen (k := 0) (n := 0) (Nat.le_of_ble_eq_true rfl) (Nat.le_of_ble_eq_true rfl) ?_
      exact W.zret (v := 1) hx hb hr (by decide) (fun t ht hW => ⟨⟨1, 1, rfl, ⟨rfl, trivial⟩, p_13, by rw [ht]; exact hP, va_K.moved hW.alike hK, hD⟩, hS.F ht⟩) hS.2.2 dX12_in_18

set_option maxHeartbeats 4000000 in
set_option maxRecDepth 100000 in
/-- m_isOf -/
theorem m_isOf (l : Launch) (dC : Nat → ClassId) (dI : Nat → Nat → Nat) (sz : Nat) (x0 : Int32) (x1 : Int32) : Met l yX12_isOf (.code yX12_isOf cX12_isOf 2 (some .boolean) :: wsA) ({ frames := 0, cells := 0, slots := 0, locals := 0 }) (va_Pc [.int x0, .int x1] (fun U => U.heap.size = sz ∧ va_P (dC, dI) classes [] U.heap ∧ va_K (dC, dI) classes [] U ∧ va_D (fun _ => True) [] ∧ xE U)) (va_Qi (fun (r : Int32) (_ : Unit) => True) (fun _ t => va_P (dC, dI) classes [] t.heap ∧ va_K (dC, dI) classes [] t ∧ va_D (va_A [] sz) []) (va_A [] sz)) 0 0 (va_A [] sz) := by
  refine Met.ofW (cc := cX12_isOf) (maxL := 2) (ret := (some .boolean)) (by decide) rfl ?_
  intro p e s m args below meth c s₁ B hml hv
  obtain ⟨rfl, hsz, hP, hK, hD0, hE⟩ := hv
  have hx := B.exec
  have hb := B.bytes
  have hr := B.returns
  have hts := atoms_spec (ws := .code yX12_isOf cX12_isOf 2 (some .boolean) :: wsA) B.pre
  have hq : ∀ w ∈ wsA, w.before _ s = true := fun w h => hts w (List.mem_cons_of_mem _ h)
  have hown : s.vm.findClass RX12 = some m.cls := findClass_of_methodNamed B.named
  have hlocks := B.notSynchronized
  subst hsz
  have hD := hD0.self (sz := s.heap.size)
  generalize hAe : va_A [] s.heap.size = A at hD ⊢
  have hA : ∀ q : Nat, s.heap.size ≤ q → A q := fun q h => by rw [← hAe]; exact Or.inr h
  have hS : va_S A s.heap s.heap [] := va_S.rf
  have hl := lv_entry ([.int x0, .int x1]) (n := 2) (Nat.le_of_ble_eq_true rfl)
  rw [lg_entry_eq]
  generalize (lg_sl ([.int x0, .int x1]) ++ List.replicate (2 - (lg_sl ([.int x0, .int x1])).length) Slot.unset).toArray = ls at hl ⊢
  have hl : lv_has ls 2 [(0, .int x0), (1, .int x1)] := hl
  refine lv_iload_n hx hb dX12_isOf_0 rfl (lv_at hl 0 rfl) ?_
  refine lv_iload_n hx hb dX12_isOf_1 rfl (lv_at hl 1 rfl) ?_
  refine lv_ishr hx hb dX12_isOf_2 ?_
  refine lv_topi (fun y_4 ey_4 => ?_)
  refine lv_iconst (v := 1) hx hb dX12_isOf_3 (by decide) ?_
  refine lv_iand hx hb dX12_isOf_4 ?_
  refine lv_topi (fun y_5 ey_5 => ?_)
  refine lv_iconst (v := 1) hx hb dX12_isOf_5 (by decide) ?_
  refine lv_icmp_ne (tgt := 13) hx hb dX12_isOf_6 (by decide) (fun c_6 => ?_) (fun c_6 => ?_)
  · refine lv_iconst (v := 0) hx hb dX12_isOf_13 (by decide) ?_
    refine W.widen (k := 0) (n := 0) (Nat.le_of_ble_eq_true rfl) (Nat.le_of_ble_eq_true rfl) ?_
    exact W.zret (v := 0) hx hb hr (by decide) (fun t ht hW => ⟨⟨0, (), rfl, trivial, by rw [ht]; exact hP, va_K.moved hW.alike hK, hD⟩, hS.F ht⟩) hS.2.2 dX12_isOf_14
  · refine lv_iconst (v := 1) hx hb dX12_isOf_9 (by decide) ?_
    refine lv_goto (tgt := 14) hx hb dX12_isOf_10 (by decide) ?_
    refine W.widen (k := 0) (n := 0) (Nat.le_of_ble_eq_true rfl) (Nat.le_of_ble_eq_true rfl) ?_
    exact W.zret (v := 1) hx hb hr (by decide) (fun t ht hW => ⟨⟨1, (), rfl, trivial, by rw [ht]; exact hP, va_K.moved hW.alike hK, hD⟩, hS.F ht⟩) hS.2.2 dX12_isOf_14

set_option maxHeartbeats 4000000 in
set_option maxRecDepth 100000 in
/-- m_bits -/
theorem m_bits (l : Launch) (dC : Nat → ClassId) (dI : Nat → Nat → Nat) (sz : Nat) (x0 : Int32) : Met l yX12_bits (.code yX12_bits cX12_bits 3 (some .int) :: wsA) ({ frames := 0, cells := 0, slots := 0, locals := 0 }) (va_Pc [.int x0] (fun U => U.heap.size = sz ∧ va_P (dC, dI) classes [] U.heap ∧ va_K (dC, dI) classes [] U ∧ va_D (fun _ => True) [] ∧ xE U)) (va_Qi (fun (r : Int32) (_ : Unit) => True) (fun _ t => va_P (dC, dI) classes [] t.heap ∧ va_K (dC, dI) classes [] t ∧ va_D (va_A [] sz) []) (va_A [] sz)) 0 0 (va_A [] sz) := by
  refine Met.ofW (cc := cX12_bits) (maxL := 3) (ret := (some .int)) (by decide) rfl ?_
  intro p e s m args below meth c s₁ B hml hv
  obtain ⟨rfl, hsz, hP, hK, hD0, hE⟩ := hv
  have hx := B.exec
  have hb := B.bytes
  have hr := B.returns
  have hts := atoms_spec (ws := .code yX12_bits cX12_bits 3 (some .int) :: wsA) B.pre
  have hq : ∀ w ∈ wsA, w.before _ s = true := fun w h => hts w (List.mem_cons_of_mem _ h)
  have hown : s.vm.findClass RX12 = some m.cls := findClass_of_methodNamed B.named
  have hlocks := B.notSynchronized
  subst hsz
  have hD := hD0.self (sz := s.heap.size)
  generalize hAe : va_A [] s.heap.size = A at hD ⊢
  have hA : ∀ q : Nat, s.heap.size ≤ q → A q := fun q h => by rw [← hAe]; exact Or.inr h
  have hS : va_S A s.heap s.heap [] := va_S.rf
  have hl := lv_entry ([.int x0]) (n := 3) (Nat.le_of_ble_eq_true rfl)
  rw [lg_entry_eq]
  generalize (lg_sl ([.int x0]) ++ List.replicate (3 - (lg_sl ([.int x0])).length) Slot.unset).toArray = ls at hl ⊢
  have hl : lv_has ls 3 [(0, .int x0)] := hl
  refine lv_iconst (v := 0) hx hb dX12_bits_0 (by decide) ?_
  refine lv_istore_n (lv' := [(1, .int 0), (0, .int x0)]) hx hb dX12_bits_1 rfl hl (by decide) rfl (fun ls hl => ?_)
  refine lv_iload_n hx hb dX12_bits_2 rfl (lv_at hl 1 rfl) ?_
  refine lv_istore_n (lv' := [(2, .int x0), (1, .int 0), (0, .int x0)]) hx hb dX12_bits_3 rfl hl (by decide) rfl (fun ls hl => ?_)
  refine W.loop (I := fun n H locs g => ∃ (y_137 : Int32) (y_138 : Int32) (ls : Array Slot), ((y_137).toBitVec.toNat < n) ∧ va_P (dC, dI) classes [] H ∧ va_D A [] ∧ va_S A s.heap H locs ∧ lv_has ls 3 [(2, .int y_137), (1, .int y_138)] ∧ g = F0 m 4 ls []) (fun H locs g h => ?_) (fun n ih4 H locs g h => ?_) (n := (2 ^ 32)) ⟨x0, 0, _, (x0).toBitVec.isLt, hP, hD, hS, (lv_sub hl [0, 1] rfl), rfl⟩
  · obtain ⟨y_137, y_138, ls, hm, hP, hD, hS, hl, rfl⟩ := h
    exact absurd hm (Nat.not_lt_zero _)
  · obtain ⟨y_137, y_138, ls, hm4, hP, hD, hS, hl, rfl⟩ := h
    refine lv_iload_n hx hb dX12_bits_4 rfl (lv_at hl 0 rfl) ?_
    refine lv_if_eq (tgt := 20) hx hb dX12_bits_5 (by decide) (fun c_263 => ?_) (fun c_263 => ?_)
    · refine lv_iload_n hx hb dX12_bits_20 rfl (lv_at hl 1 rfl) ?_
      refine W.widen (k := 0) (n := 0) (Nat.le_of_ble_eq_true rfl) (Nat.le_of_ble_eq_true rfl) ?_
      exact W.iret (v := y_138) hx hb hr (fun t ht hW => ⟨⟨y_138, (), rfl, trivial, by rw [ht]; exact hP, va_K.moved hW.alike hK, hD⟩, hS.F ht⟩) hS.2.2 dX12_bits_21
    · obtain ⟨y_264, ey_264⟩ : ∃ y : Int32, y = y_138 + 1 := ⟨_, rfl⟩
      refine lv_iinc (v := y_264) (lv' := [(1, .int y_264), (2, .int y_137)]) hx hb dX12_bits_8 hl (k := 1) rfl (by rw [ey_264]; rfl) (by decide) rfl (fun ls hl => ?_)
      refine lv_iload_n hx hb dX12_bits_11 rfl (lv_at hl 1 rfl) ?_
      refine lv_iload_n hx hb dX12_bits_12 rfl (lv_at hl 1 rfl) ?_
      refine lv_iconst (v := 1) hx hb dX12_bits_13 (by decide) ?_
      refine lv_isub hx hb dX12_bits_14 ?_
      refine lv_topi (fun y_265 ey_265 => ?_)
      refine lv_iand hx hb dX12_bits_15 ?_
      refine lv_topi (fun y_266 ey_266 => ?_)
      refine lv_istore_n (lv' := [(2, .int y_266), (1, .int y_264)]) hx hb dX12_bits_16 rfl hl (by decide) rfl (fun ls hl => ?_)
      refine lv_goto (tgt := 4) hx hb dX12_bits_17 (by decide) ?_
      exact ih4 _ _ _ ⟨y_266, y_264, _, bits_fall ey_265 ey_266 (c_263) hm4, hP, hD, hS, hl, rfl⟩
