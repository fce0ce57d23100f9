section
variable {p : Program} {l : Launch} {e : Env} {R : Room} {s : State} {m : MethodId} {args : Array Value} {below : List Frame} {meth : Method} {c : Code} {H : Heap} {locs : List Loc} {cells slots : Nat} {Q : State → Prop} {g : JFrame}
/-- several ways lead to one place: told once -/
theorem W.cut {I : Heap → List Loc → JFrame → Prop} (hJ : ∀ (H : Heap) (locs : List Loc) (g : JFrame), I H locs g → W p l e R s m args below meth c H locs cells slots Q g)
    (k : (∀ (H : Heap) (locs : List Loc) (g : JFrame), I H locs g → W p l e R s m args below meth c H locs cells slots Q g) → W p l e R s m args below meth c H locs cells slots Q g) : W p l e R s m args below meth c H locs cells slots Q g := k hJ
/-- a loop, by a number that falls -/
theorem W.loop {I : Nat → Heap → List Loc → JFrame → Prop} (h0 : ∀ (H : Heap) (locs : List Loc) (g : JFrame), I 0 H locs g → False)
    (hs : ∀ n : Nat, (∀ (H : Heap) (locs : List Loc) (g : JFrame), I n H locs g → W p l e R s m args below meth c H locs cells slots Q g) → ∀ (H : Heap) (locs : List Loc) (g : JFrame), I (n + 1) H locs g → W p l e R s m args below meth c H locs cells slots Q g)
    {n : Nat} (h : I n H locs g) : W p l e R s m args below meth c H locs cells slots Q g := by
  have key : ∀ n : Nat, ∀ (H : Heap) (locs : List Loc) (g : JFrame), I n H locs g → W p l e R s m args below meth c H locs cells slots Q g := by
    intro n
    induction n with
    | zero => exact fun H locs g h => (h0 H locs g h).elim
    | succ n ih => exact hs n ih
  exact key n H locs g h
end
/-! bounds of numbers -/
def bt (lo hi : Int) (x : Int32) : Prop := lo ≤ x.toInt ∧ x.toInt ≤ hi
section
variable {lo hi a b c d : Int} {x y z : Int32} {n k : Nat}
theorem bt_all (x : Int32) : bt (-2147483648) 2147483647 x := ⟨by have := Int32.le_toInt x; omega, by have := Int32.toInt_lt x; omega⟩
theorem bt_k {c : Int} (h : x.toInt = c) : bt c c x := ⟨Int.le_of_eq h.symm, Int.le_of_eq h⟩
theorem bt_w (h : bt a b x) (s : lo ≤ a ∧ b ≤ hi) : bt lo hi x := ⟨Int.le_trans s.1 h.1, Int.le_trans h.2 s.2⟩
theorem bt_in (h : bt a b x) (s : 0 ≤ a ∧ b < (n : Int)) : vp_in x n := vp_in_iff.mpr ⟨Int.le_trans s.1 h.1, Int.lt_of_le_of_lt h.2 s.2⟩
theorem i0_toInt : (0 : Int32).toInt = 0 := rfl
theorem bt_nz (h : bt a b x) (s : 0 < a ∨ b < 0) : ¬ x = 0 := by
  intro e
  have h1 := h.1
  have h2 := h.2
  rw [e, i0_toInt] at h1 h2
  omega
theorem bt_meet (h : bt a b x) (g : bt c d x) (s : (lo ≤ a ∨ lo ≤ c) ∧ (b ≤ hi ∨ d ≤ hi)) : bt lo hi x := by
  obtain ⟨h1, h2⟩ := h
  obtain ⟨h3, h4⟩ := g
  constructor <;> omega
theorem i32_add (h1 : -2147483648 ≤ x.toInt + y.toInt) (h2 : x.toInt + y.toInt ≤ 2147483647) : (x + y).toInt = x.toInt + y.toInt := by
  rw [Int32.toInt_add]; exact Int.bmod_eq_of_le (by omega) (by omega)
theorem i32_sub (h1 : -2147483648 ≤ x.toInt - y.toInt) (h2 : x.toInt - y.toInt ≤ 2147483647) : (x - y).toInt = x.toInt - y.toInt := by
  rw [Int32.toInt_sub]; exact Int.bmod_eq_of_le (by omega) (by omega)
theorem i32_mul (h1 : -2147483648 ≤ x.toInt * y.toInt) (h2 : x.toInt * y.toInt ≤ 2147483647) : (x * y).toInt = x.toInt * y.toInt := by
  rw [Int32.toInt_mul]; exact Int.bmod_eq_of_le (by omega) (by omega)
theorem add_eq (e : z = x + y) (hx : bt a b x) (hy : bt c d y) (s : -2147483648 ≤ a + c ∧ b + d ≤ 2147483647) : z.toInt = x.toInt + y.toInt := by
  obtain ⟨h1, h2⟩ := hx
  obtain ⟨h3, h4⟩ := hy
  rw [e]; exact i32_add (by omega) (by omega)
theorem sub_eq (e : z = x - y) (hx : bt a b x) (hy : bt c d y) (s : -2147483648 ≤ a - d ∧ b - c ≤ 2147483647) : z.toInt = x.toInt - y.toInt := by
  obtain ⟨h1, h2⟩ := hx
  obtain ⟨h3, h4⟩ := hy
  rw [e]; exact i32_sub (by omega) (by omega)
theorem bt_add (e : z = x + y) (hx : bt a b x) (hy : bt c d y) (s : lo ≤ a + c ∧ b + d ≤ hi ∧ -2147483648 ≤ a + c ∧ b + d ≤ 2147483647) : bt lo hi z := by
  have h := add_eq e hx hy ⟨s.2.2.1, s.2.2.2⟩
  obtain ⟨h1, h2⟩ := hx
  obtain ⟨h3, h4⟩ := hy
  constructor <;> omega
theorem bt_sub (e : z = x - y) (hx : bt a b x) (hy : bt c d y) (s : lo ≤ a - d ∧ b - c ≤ hi ∧ -2147483648 ≤ a - d ∧ b - c ≤ 2147483647) : bt lo hi z := by
  have h := sub_eq e hx hy ⟨s.2.2.1, s.2.2.2⟩
  obtain ⟨h1, h2⟩ := hx
  obtain ⟨h3, h4⟩ := hy
  constructor <;> omega
theorem bt_mul (e : z = x * y) (hx : bt a b x) (hy : bt c d y) (s : lo ≤ a * c ∧ b * d ≤ hi ∧ 0 ≤ a ∧ 0 ≤ c ∧ b * d ≤ 2147483647) : bt lo hi z := by
  obtain ⟨h1, h2⟩ := hx
  obtain ⟨h3, h4⟩ := hy
  have g1 : a * c ≤ x.toInt * y.toInt := Int.mul_le_mul h1 h3 s.2.2.2.1 (Int.le_trans s.2.2.1 h1)
  have g2 : x.toInt * y.toInt ≤ b * d := Int.mul_le_mul h2 h4 (Int.le_trans s.2.2.2.1 h3) (Int.le_trans s.2.2.1 (Int.le_trans h1 h2))
  have g3 : 0 ≤ a * c := Int.mul_nonneg s.2.2.1 s.2.2.2.1
  have h := i32_mul (x := x) (y := y) (by omega) (by omega)
  rw [e]
  constructor <;> omega
theorem tn_cond (x : Int32) : x.toInt = if 2 * x.toBitVec.toNat < 2 ^ 32 then (x.toBitVec.toNat : Int) else (x.toBitVec.toNat : Int) - ((2 ^ 32 : Nat) : Int) := BitVec.toInt_eq_toNat_cond x.toBitVec
theorem tn_pos (h : 0 ≤ x.toInt) : x.toInt = (x.toBitVec.toNat : Int) ∧ x.toBitVec.toNat < 2 ^ 31 := by
  have e := tn_cond x
  have hl := x.toBitVec.isLt
  split at e <;> omega
theorem tn_small (h : x.toBitVec.toNat < 2 ^ 31) : x.toInt = (x.toBitVec.toNat : Int) := by
  have e := tn_cond x
  rw [if_pos (by omega)] at e
  exact e
theorem bt_andr (e : z = x &&& y) (hy : bt c d y) (s : lo ≤ 0 ∧ d ≤ hi ∧ 0 ≤ c) : bt lo hi z := by
  obtain ⟨h3, h4⟩ := hy
  obtain ⟨g1, g2⟩ := tn_pos (x := y) (by omega)
  have g3 : z.toBitVec.toNat ≤ y.toBitVec.toNat := by
    rw [e, Int32.toBitVec_and, BitVec.toNat_and]; exact Nat.and_le_right
  have g4 := tn_small (x := z) (by omega)
  constructor <;> omega
theorem bt_andl (e : z = x &&& y) (hx : bt a b x) (s : lo ≤ 0 ∧ b ≤ hi ∧ 0 ≤ a) : bt lo hi z := by
  obtain ⟨h3, h4⟩ := hx
  obtain ⟨g1, g2⟩ := tn_pos (x := x) (by omega)
  have g3 : z.toBitVec.toNat ≤ x.toBitVec.toNat := by
    rw [e, Int32.toBitVec_and, BitVec.toNat_and]; exact Nat.and_le_left
  have g4 := tn_small (x := z) (by omega)
  constructor <;> omega
theorem nI_pos_of (h : 0 ≤ x.toInt) : ∃ j : Nat, j < 2 ^ 31 ∧ x = nI j ∧ x.toInt = (j : Int) := by
  obtain ⟨j, hj, e⟩ := nI_of (x := x) (by
    intro q
    have := Int32.lt_iff_toInt_lt.mp q
    rw [i0_toInt] at this
    omega)
  exact ⟨j, hj, e, by rw [e]; exact nI_toInt hj⟩
theorem bt_div (e : z = x / y) (hx : bt a b x) (hy : bt c c y) (s : lo ≤ a / c ∧ b / c ≤ hi ∧ 0 ≤ a ∧ 0 < c) : bt lo hi z := by
  obtain ⟨h1, h2⟩ := hx
  obtain ⟨h3, h4⟩ := hy
  obtain ⟨j, hj, ex, tx⟩ := nI_pos_of (x := x) (by omega)
  obtain ⟨k, hk, ey, ty⟩ := nI_pos_of (x := y) (by omega)
  have hz : z = nI (j / k) := by rw [e, ex, ey]; exact pk_div hj (by omega) hk
  have hlt : j / k < 2 ^ 31 := Nat.lt_of_le_of_lt (Nat.div_le_self j k) hj
  have tz : z.toInt = (j : Int) / (k : Int) := by rw [hz, nI_toInt hlt]; rfl
  have hc : c = (k : Int) := by omega
  have g1 : a / c ≤ x.toInt / c := Int.ediv_le_ediv (by omega) h1
  have g2 : x.toInt / c ≤ b / c := Int.ediv_le_ediv (by omega) h2
  rw [tx] at g1 g2
  rw [← hc] at tz
  constructor <;> omega
theorem bt_rem (e : z = x - x / y * y) (hx : bt a b x) (hy : bt c d y) (s : lo ≤ 0 ∧ (b ≤ hi ∨ d - 1 ≤ hi) ∧ 0 ≤ a ∧ 0 < c) : bt lo hi z := by
  obtain ⟨h1, h2⟩ := hx
  obtain ⟨h3, h4⟩ := hy
  obtain ⟨j, hj, ex, tx⟩ := nI_pos_of (x := x) (by omega)
  obtain ⟨k, hk, ey, ty⟩ := nI_pos_of (x := y) (by omega)
  have hz : z = nI (j % k) := by rw [e, ex, ey]; exact pk_rem hj (by omega) hk
  have g1 : j % k < k := Nat.mod_lt _ (by omega)
  have g2 : j % k ≤ j := Nat.mod_le j k
  have tz : z.toInt = ((j % k : Nat) : Int) := by rw [hz, nI_toInt (by omega)]
  generalize j % k = q at g1 g2 tz
  constructor <;> omega
theorem bt_shr (e : z = x >>> (y &&& 31)) (hx : bt a b x) (hk : ((y &&& 31).toBitVec.smod 32).toNat = k) (s : lo ≤ a / ((2 ^ k : Nat) : Int) ∧ b / ((2 ^ k : Nat) : Int) ≤ hi) : bt lo hi z := by
  obtain ⟨h1, h2⟩ := hx
  have tz : z.toInt = x.toInt / ((2 ^ k : Nat) : Int) := by rw [e, pk_shr _ _ k hk, Int.shiftRight_eq_div_pow]
  have h0 : (0 : Int) < ((2 ^ k : Nat) : Int) := Int.natCast_pos.mpr (Nat.two_pow_pos k)
  have g1 := Int.ediv_le_ediv h0 h1
  have g2 := Int.ediv_le_ediv h0 h2
  rw [← tz] at g1 g2
  exact ⟨Int.le_trans s.1 g1, Int.le_trans g2 s.2⟩
theorem bt_neg (e : z = -x) (hx : bt a b x) (s : lo ≤ -b ∧ -a ≤ hi ∧ -2147483648 < a) : bt lo hi z := by
  obtain ⟨h1, h2⟩ := hx
  have h3 := Int32.toInt_lt x
  have tz : z.toInt = -x.toInt := by
    rw [e, Int32.toInt_neg]; exact Int.bmod_eq_of_le (by omega) (by omega)
  constructor <;> omega
theorem bt_i2b (e : z = x.toInt8.toInt32) : bt (-128) 127 z := by
  have h1 := Int8.le_toInt x.toInt8
  have h2 := Int8.toInt_lt x.toInt8
  rw [← Int8.toInt_toInt32, ← e] at h1 h2
  constructor <;> omega
theorem bt_min (e : z = if y < x then y else x) (hx : bt a b x) (hy : bt c d y) (s : lo ≤ a ∧ lo ≤ c ∧ (b ≤ hi ∨ d ≤ hi)) : bt lo hi z := by
  obtain ⟨h1, h2⟩ := hx
  obtain ⟨h3, h4⟩ := hy
  split at e
  · rename_i q
    have := Int32.lt_iff_toInt_lt.mp q
    subst e
    constructor <;> omega
  · rename_i q
    have := fun w => q (Int32.lt_iff_toInt_lt.mpr w)
    have : x.toInt ≤ y.toInt := Int.not_lt.mp this
    subst e
    constructor <;> omega
theorem bt_max (e : z = if x < y then y else x) (hx : bt a b x) (hy : bt c d y) (s : (lo ≤ a ∨ lo ≤ c) ∧ b ≤ hi ∧ d ≤ hi) : bt lo hi z := by
  obtain ⟨h1, h2⟩ := hx
  obtain ⟨h3, h4⟩ := hy
  split at e
  · rename_i q
    have := Int32.lt_iff_toInt_lt.mp q
    subst e
    constructor <;> omega
  · rename_i q
    have := fun w => q (Int32.lt_iff_toInt_lt.mpr w)
    have : y.toInt ≤ x.toInt := Int.not_lt.mp this
    subst e
    constructor <;> omega
theorem rf_lt_l (hx : bt a b x) (hy : bt c d y) (h : x < y) (s : lo ≤ a ∧ d - 1 ≤ hi) : bt lo hi x := by
  have q := Int32.lt_iff_toInt_lt.mp h
  obtain ⟨h1, h2⟩ := hx
  obtain ⟨h3, h4⟩ := hy
  constructor <;> omega
theorem rf_lt_r (hx : bt a b x) (hy : bt c d y) (h : x < y) (s : lo ≤ a + 1 ∧ d ≤ hi) : bt lo hi y := by
  have q := Int32.lt_iff_toInt_lt.mp h
  obtain ⟨h1, h2⟩ := hx
  obtain ⟨h3, h4⟩ := hy
  constructor <;> omega
theorem rf_le_l (hx : bt a b x) (hy : bt c d y) (h : x ≤ y) (s : lo ≤ a ∧ d ≤ hi) : bt lo hi x := by
  have q := Int32.le_iff_toInt_le.mp h
  obtain ⟨h1, h2⟩ := hx
  obtain ⟨h3, h4⟩ := hy
  constructor <;> omega
theorem rf_le_r (hx : bt a b x) (hy : bt c d y) (h : x ≤ y) (s : lo ≤ a ∧ d ≤ hi) : bt lo hi y := by
  have q := Int32.le_iff_toInt_le.mp h
  obtain ⟨h1, h2⟩ := hx
  obtain ⟨h3, h4⟩ := hy
  constructor <;> omega
theorem rf_eq_l (hy : bt c d y) (h : x = y) : bt c d x := h ▸ hy
theorem rf_eq_r (hx : bt a b x) (h : x = y) : bt a b y := h ▸ hx
theorem rf_ne_lo (hx : bt a b x) (h : ¬ x = y) (hy : y.toInt = a) (s : lo ≤ a + 1 ∧ b ≤ hi) : bt lo hi x := by
  obtain ⟨h1, h2⟩ := hx
  have : x.toInt ≠ y.toInt := fun q => h (Int32.toInt_inj.mp q)
  constructor <;> omega
theorem rf_ne_hi (hx : bt a b x) (h : ¬ x = y) (hy : y.toInt = b) (s : lo ≤ a ∧ b - 1 ≤ hi) : bt lo hi x := by
  obtain ⟨h1, h2⟩ := hx
  have : x.toInt ≠ y.toInt := fun q => h (Int32.toInt_inj.mp q)
  constructor <;> omega
theorem rf_lt_no (hx : bt a b x) (hy : bt c d y) (h : x < y) (s : d ≤ a) : False := by
  have q := Int32.lt_iff_toInt_lt.mp h
  obtain ⟨h1, h2⟩ := hx
  obtain ⟨h3, h4⟩ := hy
  omega
theorem rf_le_no (hx : bt a b x) (hy : bt c d y) (h : x ≤ y) (s : d < a) : False := by
  have q := Int32.le_iff_toInt_le.mp h
  obtain ⟨h1, h2⟩ := hx
  obtain ⟨h3, h4⟩ := hy
  omega
theorem rf_eq_no (hx : bt a b x) (hy : bt c d y) (h : x = y) (s : b < c ∨ d < a) : False := by
  obtain ⟨h1, h2⟩ := hx
  obtain ⟨h3, h4⟩ := hy
  subst h
  omega
theorem rf_ne_no (hx : bt a b x) (hy : bt c d y) (h : ¬ x = y) (s : a = b ∧ c = d ∧ a = c) : False := by
  obtain ⟨h1, h2⟩ := hx
  obtain ⟨h3, h4⟩ := hy
  exact h (Int32.toInt_inj.mp (by omega))
/-! measures -/
theorem ms_0 {HI : Int} (h : bt a b x) (s : HI - a < (n : Int)) : HI - x.toInt < (n : Int) := by have := h.1; omega
theorem ms_d0 {LO : Int} (h : bt a b x) (s : b - LO < (n : Int)) : x.toInt - LO < (n : Int) := by have := h.2; omega
theorem ms_z {HI : Int} (h : bt a HI x) (s : HI - x.toInt < ((0 : Nat) : Int)) : False := by have := h.2; omega
theorem ms_dz {LO : Int} (h : bt LO b x) (s : x.toInt - LO < ((0 : Nat) : Int)) : False := by have := h.1; omega
theorem ms_s {HI : Int} {c : Int32} (e : y = x + c) (h : bt a b x) (hm : HI - x.toInt < ((n + 1 : Nat) : Int)) (s : 0 < c.toInt ∧ -2147483648 ≤ a + c.toInt ∧ b + c.toInt ≤ 2147483647) : HI - y.toInt < (n : Int) := by
  have := add_eq e h (bt_k (x := c) rfl) ⟨s.2.1, s.2.2⟩
  omega
theorem ms_sm {HI : Int} {c : Int32} (e : y = x - c) (h : bt a b x) (hm : HI - x.toInt < ((n + 1 : Nat) : Int)) (s : c.toInt < 0 ∧ -2147483648 ≤ a - c.toInt ∧ b - c.toInt ≤ 2147483647) : HI - y.toInt < (n : Int) := by
  have := sub_eq e h (bt_k (x := c) rfl) ⟨s.2.1, s.2.2⟩
  omega
theorem ms_d {LO : Int} {c : Int32} (e : y = x + c) (h : bt a b x) (hm : x.toInt - LO < ((n + 1 : Nat) : Int)) (s : c.toInt < 0 ∧ -2147483648 ≤ a + c.toInt ∧ b + c.toInt ≤ 2147483647) : y.toInt - LO < (n : Int) := by
  have := add_eq e h (bt_k (x := c) rfl) ⟨s.2.1, s.2.2⟩
  omega
theorem ms_dm {LO : Int} {c : Int32} (e : y = x - c) (h : bt a b x) (hm : x.toInt - LO < ((n + 1 : Nat) : Int)) (s : 0 < c.toInt ∧ -2147483648 ≤ a - c.toInt ∧ b - c.toInt ≤ 2147483647) : y.toInt - LO < (n : Int) := by
  have := sub_eq e h (bt_k (x := c) rfl) ⟨s.2.1, s.2.2⟩
  omega
theorem bt_01 (h : bt 0 1 x) : x = 0 ∨ x = 1 := by
  obtain ⟨h1, h2⟩ := h
  have : x.toInt = 0 ∨ x.toInt = 1 := by omega
  exact this.imp (fun q => Int32.toInt_inj.mp (q.trans rfl)) (fun q => Int32.toInt_inj.mp (q.trans rfl))
theorem nar_z (h : bt 0 1 x) : narrow .boolean (.int x) = .int x := by
  rcases bt_01 h with rfl | rfl <;> decide
theorem fit_z (h : bt 0 1 x) : fits .boolean (.int x) = true := by
  rcases bt_01 h with rfl | rfl <;> decide
theorem bt_i2c (e : z = (x.toUInt32 % 65536).toInt32) : bt 0 65535 z := by
  have h1 : x.toBitVec.toNat % 65536 < 65536 := Nat.mod_lt _ (by decide)
  rw [e, pk_char]
  generalize x.toBitVec.toNat % 65536 = q at h1
  have h2 := nI_toInt (n := q) (by omega)
  constructor <;> omega
theorem nar_c (h : bt 0 65535 x) : narrow .char (.int x) = .int x := by
  obtain ⟨h1, h2⟩ := h
  obtain ⟨j, hj, ex, tx⟩ := nI_pos_of (x := x) h1
  rw [ex]; exact (pk_charN (by omega)).1
theorem lg_nz {u : Int64} {q : Int32} (e : q = lg_cmp u 0) (h : ¬ q = 0) : ¬ u = 0 := fun w => h (by rw [e, w]; decide)
end
