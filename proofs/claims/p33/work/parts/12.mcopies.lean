theorem dX12_keeps_0 : decode cX12_keeps 0 = .ok (.iconst 0, 1) := by decide +kernel
theorem dX12_keeps_1 : decode cX12_keeps 1 = .ok (.istore_n 1, 1) := by decide +kernel
theorem dX12_keeps_2 : decode cX12_keeps 2 = .ok (.iload_n 1, 1) := by decide +kernel
theorem dX12_keeps_3 : decode cX12_keeps 3 = .ok (.bipush 20, 2) := by decide +kernel
theorem dX12_keeps_5 : decode cX12_keeps 5 = .ok (.if_icmp .ge 24, 3) := by decide +kernel
theorem dX12_keeps_8 : decode cX12_keeps 8 = .ok (.aload_n 0, 1) := by decide +kernel
theorem dX12_keeps_9 : decode cX12_keeps 9 = .ok (.getfield 49, 3) := by decide +kernel
theorem dX12_keeps_12 : decode cX12_keeps 12 = .ok (.iload_n 1, 1) := by decide +kernel
theorem dX12_keeps_13 : decode cX12_keeps 13 = .ok (.aload_n 0, 1) := by decide +kernel
theorem dX12_keeps_14 : decode cX12_keeps 14 = .ok (.getfield 39, 3) := by decide +kernel
theorem dX12_keeps_17 : decode cX12_keeps 17 = .ok (.bipush 10, 2) := by decide +kernel
theorem dX12_keeps_19 : decode cX12_keeps 19 = .ok (.iload_n 1, 1) := by decide +kernel
theorem dX12_keeps_20 : decode cX12_keeps 20 = .ok (.iadd, 1) := by decide +kernel
theorem dX12_keeps_21 : decode cX12_keeps 21 = .ok (.iaload, 1) := by decide +kernel
theorem dX12_keeps_22 : decode cX12_keeps 22 = .ok (.iastore, 1) := by decide +kernel
theorem dX12_keeps_23 : decode cX12_keeps 23 = .ok (.iinc 1 1, 3) := by decide +kernel
theorem dX12_keeps_26 : decode cX12_keeps 26 = .ok (.goto (-24), 3) := by decide +kernel
theorem dX12_keeps_29 : decode cX12_keeps 29 = .ok (.return_, 1) := by decide +kernel
theorem dX12_keepsAct_0 : decode cX12_keepsAct 0 = .ok (.aload_n 0, 1) := by decide +kernel
theorem dX12_keepsAct_1 : decode cX12_keepsAct 1 = .ok (.getfield 262, 3) := by decide +kernel
theorem dX12_keepsAct_4 : decode cX12_keepsAct 4 = .ok (.bipush 20, 2) := by decide +kernel
theorem dX12_keepsAct_6 : decode cX12_keepsAct 6 = .ok (.if_icmp .ne 44, 3) := by decide +kernel
theorem dX12_keepsAct_9 : decode cX12_keepsAct 9 = .ok (.bipush 20, 2) := by decide +kernel
theorem dX12_keepsAct_11 : decode cX12_keepsAct 11 = .ok (.istore_n 1, 1) := by decide +kernel
theorem dX12_keepsAct_12 : decode cX12_keepsAct 12 = .ok (.iload_n 1, 1) := by decide +kernel
theorem dX12_keepsAct_13 : decode cX12_keepsAct 13 = .ok (.sipush 400, 3) := by decide +kernel
theorem dX12_keepsAct_16 : decode cX12_keepsAct 16 = .ok (.if_icmp .ge 24, 3) := by decide +kernel
theorem dX12_keepsAct_19 : decode cX12_keepsAct 19 = .ok (.aload_n 0, 1) := by decide +kernel
theorem dX12_keepsAct_20 : decode cX12_keepsAct 20 = .ok (.getfield 46, 3) := by decide +kernel
theorem dX12_keepsAct_23 : decode cX12_keepsAct 23 = .ok (.iload_n 1, 1) := by decide +kernel
theorem dX12_keepsAct_24 : decode cX12_keepsAct 24 = .ok (.bipush 20, 2) := by decide +kernel
theorem dX12_keepsAct_26 : decode cX12_keepsAct 26 = .ok (.isub, 1) := by decide +kernel
theorem dX12_keepsAct_27 : decode cX12_keepsAct 27 = .ok (.aload_n 0, 1) := by decide +kernel
theorem dX12_keepsAct_28 : decode cX12_keepsAct 28 = .ok (.getfield 46, 3) := by decide +kernel
theorem dX12_keepsAct_31 : decode cX12_keepsAct 31 = .ok (.iload_n 1, 1) := by decide +kernel
theorem dX12_keepsAct_32 : decode cX12_keepsAct 32 = .ok (.iaload, 1) := by decide +kernel
theorem dX12_keepsAct_33 : decode cX12_keepsAct 33 = .ok (.iastore, 1) := by decide +kernel
theorem dX12_keepsAct_34 : decode cX12_keepsAct 34 = .ok (.iinc 1 1, 3) := by decide +kernel
theorem dX12_keepsAct_37 : decode cX12_keepsAct 37 = .ok (.goto (-25), 3) := by decide +kernel
theorem dX12_keepsAct_40 : decode cX12_keepsAct 40 = .ok (.aload_n 0, 1) := by decide +kernel
theorem dX12_keepsAct_41 : decode cX12_keepsAct 41 = .ok (.dup, 1) := by decide +kernel
theorem dX12_keepsAct_42 : decode cX12_keepsAct 42 = .ok (.getfield 262, 3) := by decide +kernel
theorem dX12_keepsAct_45 : decode cX12_keepsAct 45 = .ok (.iconst 1, 1) := by decide +kernel
theorem dX12_keepsAct_46 : decode cX12_keepsAct 46 = .ok (.isub, 1) := by decide +kernel
theorem dX12_keepsAct_47 : decode cX12_keepsAct 47 = .ok (.putfield 262, 3) := by decide +kernel
theorem dX12_keepsAct_50 : decode cX12_keepsAct 50 = .ok (.iconst 0, 1) := by decide +kernel
theorem dX12_keepsAct_51 : decode cX12_keepsAct 51 = .ok (.istore_n 1, 1) := by decide +kernel
theorem dX12_keepsAct_52 : decode cX12_keepsAct 52 = .ok (.iload_n 1, 1) := by decide +kernel
theorem dX12_keepsAct_53 : decode cX12_keepsAct 53 = .ok (.bipush 20, 2) := by decide +kernel
theorem dX12_keepsAct_55 : decode cX12_keepsAct 55 = .ok (.if_icmp .ge 32, 3) := by decide +kernel
theorem dX12_keepsAct_58 : decode cX12_keepsAct 58 = .ok (.aload_n 0, 1) := by decide +kernel
theorem dX12_keepsAct_59 : decode cX12_keepsAct 59 = .ok (.getfield 46, 3) := by decide +kernel
theorem dX12_keepsAct_62 : decode cX12_keepsAct 62 = .ok (.bipush 20, 2) := by decide +kernel
theorem dX12_keepsAct_64 : decode cX12_keepsAct 64 = .ok (.aload_n 0, 1) := by decide +kernel
theorem dX12_keepsAct_65 : decode cX12_keepsAct 65 = .ok (.getfield 262, 3) := by decide +kernel
theorem dX12_keepsAct_68 : decode cX12_keepsAct 68 = .ok (.imul, 1) := by decide +kernel
theorem dX12_keepsAct_69 : decode cX12_keepsAct 69 = .ok (.iload_n 1, 1) := by decide +kernel
theorem dX12_keepsAct_70 : decode cX12_keepsAct 70 = .ok (.iadd, 1) := by decide +kernel
theorem dX12_keepsAct_71 : decode cX12_keepsAct 71 = .ok (.aload_n 0, 1) := by decide +kernel
theorem dX12_keepsAct_72 : decode cX12_keepsAct 72 = .ok (.getfield 39, 3) := by decide +kernel
theorem dX12_keepsAct_75 : decode cX12_keepsAct 75 = .ok (.bipush 10, 2) := by decide +kernel
theorem dX12_keepsAct_77 : decode cX12_keepsAct 77 = .ok (.iload_n 1, 1) := by decide +kernel
theorem dX12_keepsAct_78 : decode cX12_keepsAct 78 = .ok (.iadd, 1) := by decide +kernel
theorem dX12_keepsAct_79 : decode cX12_keepsAct 79 = .ok (.iaload, 1) := by decide +kernel
theorem dX12_keepsAct_80 : decode cX12_keepsAct 80 = .ok (.iastore, 1) := by decide +kernel
theorem dX12_keepsAct_81 : decode cX12_keepsAct 81 = .ok (.iinc 1 1, 3) := by decide +kernel
theorem dX12_keepsAct_84 : decode cX12_keepsAct 84 = .ok (.goto (-32), 3) := by decide +kernel
theorem dX12_keepsAct_87 : decode cX12_keepsAct 87 = .ok (.aload_n 0, 1) := by decide +kernel
theorem dX12_keepsAct_88 : decode cX12_keepsAct 88 = .ok (.dup, 1) := by decide +kernel
theorem dX12_keepsAct_89 : decode cX12_keepsAct 89 = .ok (.getfield 262, 3) := by decide +kernel
theorem dX12_keepsAct_92 : decode cX12_keepsAct 92 = .ok (.iconst 1, 1) := by decide +kernel
theorem dX12_keepsAct_93 : decode cX12_keepsAct 93 = .ok (.iadd, 1) := by decide +kernel
theorem dX12_keepsAct_94 : decode cX12_keepsAct 94 = .ok (.putfield 262, 3) := by decide +kernel
theorem dX12_keepsAct_97 : decode cX12_keepsAct 97 = .ok (.return_, 1) := by decide +kernel
theorem dX12_laysBack_0 : decode cX12_laysBack 0 = .ok (.iconst 0, 1) := by decide +kernel
theorem dX12_laysBack_1 : decode cX12_laysBack 1 = .ok (.istore_n 1, 1) := by decide +kernel
theorem dX12_laysBack_2 : decode cX12_laysBack 2 = .ok (.iload_n 1, 1) := by decide +kernel
theorem dX12_laysBack_3 : decode cX12_laysBack 3 = .ok (.bipush 20, 2) := by decide +kernel
theorem dX12_laysBack_5 : decode cX12_laysBack 5 = .ok (.if_icmp .ge 24, 3) := by decide +kernel
theorem dX12_laysBack_8 : decode cX12_laysBack 8 = .ok (.aload_n 0, 1) := by decide +kernel
theorem dX12_laysBack_9 : decode cX12_laysBack 9 = .ok (.getfield 39, 3) := by decide +kernel
theorem dX12_laysBack_12 : decode cX12_laysBack 12 = .ok (.bipush 10, 2) := by decide +kernel
theorem dX12_laysBack_14 : decode cX12_laysBack 14 = .ok (.iload_n 1, 1) := by decide +kernel
theorem dX12_laysBack_15 : decode cX12_laysBack 15 = .ok (.iadd, 1) := by decide +kernel
theorem dX12_laysBack_16 : decode cX12_laysBack 16 = .ok (.aload_n 0, 1) := by decide +kernel
theorem dX12_laysBack_17 : decode cX12_laysBack 17 = .ok (.getfield 49, 3) := by decide +kernel
theorem dX12_laysBack_20 : decode cX12_laysBack 20 = .ok (.iload_n 1, 1) := by decide +kernel
theorem dX12_laysBack_21 : decode cX12_laysBack 21 = .ok (.iaload, 1) := by decide +kernel
theorem dX12_laysBack_22 : decode cX12_laysBack 22 = .ok (.iastore, 1) := by decide +kernel
theorem dX12_laysBack_23 : decode cX12_laysBack 23 = .ok (.iinc 1 1, 3) := by decide +kernel
theorem dX12_laysBack_26 : decode cX12_laysBack 26 = .ok (.goto (-24), 3) := by decide +kernel
theorem dX12_laysBack_29 : decode cX12_laysBack 29 = .ok (.return_, 1) := by decide +kernel
theorem dX12_undo_0 : decode cX12_undo 0 = .ok (.aload_n 0, 1) := by decide +kernel
theorem dX12_undo_1 : decode cX12_undo 1 = .ok (.getfield 262, 3) := by decide +kernel
theorem dX12_undo_4 : decode cX12_undo 4 = .ok (.ifCond .ne 5, 3) := by decide +kernel
theorem dX12_undo_7 : decode cX12_undo 7 = .ok (.iconst (-1), 1) := by decide +kernel
theorem dX12_undo_8 : decode cX12_undo 8 = .ok (.ireturn, 1) := by decide +kernel
theorem dX12_undo_9 : decode cX12_undo 9 = .ok (.aload_n 0, 1) := by decide +kernel
theorem dX12_undo_10 : decode cX12_undo 10 = .ok (.dup, 1) := by decide +kernel
theorem dX12_undo_11 : decode cX12_undo 11 = .ok (.getfield 262, 3) := by decide +kernel
theorem dX12_undo_14 : decode cX12_undo 14 = .ok (.iconst 1, 1) := by decide +kernel
theorem dX12_undo_15 : decode cX12_undo 15 = .ok (.isub, 1) := by decide +kernel
theorem dX12_undo_16 : decode cX12_undo 16 = .ok (.putfield 262, 3) := by decide +kernel
theorem dX12_undo_19 : decode cX12_undo 19 = .ok (.iconst 0, 1) := by decide +kernel
theorem dX12_undo_20 : decode cX12_undo 20 = .ok (.istore_n 1, 1) := by decide +kernel
theorem dX12_undo_21 : decode cX12_undo 21 = .ok (.iload_n 1, 1) := by decide +kernel
theorem dX12_undo_22 : decode cX12_undo 22 = .ok (.bipush 20, 2) := by decide +kernel
theorem dX12_undo_24 : decode cX12_undo 24 = .ok (.if_icmp .ge 32, 3) := by decide +kernel
theorem dX12_undo_27 : decode cX12_undo 27 = .ok (.aload_n 0, 1) := by decide +kernel
theorem dX12_undo_28 : decode cX12_undo 28 = .ok (.getfield 39, 3) := by decide +kernel
theorem dX12_undo_31 : decode cX12_undo 31 = .ok (.bipush 10, 2) := by decide +kernel
theorem dX12_undo_33 : decode cX12_undo 33 = .ok (.iload_n 1, 1) := by decide +kernel
theorem dX12_undo_34 : decode cX12_undo 34 = .ok (.iadd, 1) := by decide +kernel
theorem dX12_undo_35 : decode cX12_undo 35 = .ok (.aload_n 0, 1) := by decide +kernel
theorem dX12_undo_36 : decode cX12_undo 36 = .ok (.getfield 46, 3) := by decide +kernel
theorem dX12_undo_39 : decode cX12_undo 39 = .ok (.bipush 20, 2) := by decide +kernel
theorem dX12_undo_41 : decode cX12_undo 41 = .ok (.aload_n 0, 1) := by decide +kernel
theorem dX12_undo_42 : decode cX12_undo 42 = .ok (.getfield 262, 3) := by decide +kernel
theorem dX12_undo_45 : decode cX12_undo 45 = .ok (.imul, 1) := by decide +kernel
theorem dX12_undo_46 : decode cX12_undo 46 = .ok (.iload_n 1, 1) := by decide +kernel
theorem dX12_undo_47 : decode cX12_undo 47 = .ok (.iadd, 1) := by decide +kernel
theorem dX12_undo_48 : decode cX12_undo 48 = .ok (.iaload, 1) := by decide +kernel
theorem dX12_undo_49 : decode cX12_undo 49 = .ok (.iastore, 1) := by decide +kernel
theorem dX12_undo_50 : decode cX12_undo 50 = .ok (.iinc 1 1, 3) := by decide +kernel
theorem dX12_undo_53 : decode cX12_undo 53 = .ok (.goto (-32), 3) := by decide +kernel
theorem dX12_undo_56 : decode cX12_undo 56 = .ok (.aload_n 0, 1) := by decide +kernel
theorem dX12_undo_57 : decode cX12_undo 57 = .ok (.getfield 262, 3) := by decide +kernel
theorem dX12_undo_60 : decode cX12_undo 60 = .ok (.ireturn, 1) := by decide +kernel

/-! rows copied -/
def KT (f : Nat → Int32) : Prop := bt (-1) 7 (f 1)
def WT (f : Nat → Int32) : Prop := ∀ j : Nat, j < 400 → j % 20 = 1 → bt (-1) 7 (f j)
section
variable {t0 t1 t2 t3 x y z u v p k : Int32} {f g h : Nat → Int32}
theorem add10 (e : y = 10 + x) (hx : bt 0 19 x) : y.toNatClampNeg = 10 + x.toNatClampNeg := by
  obtain ⟨h1, h2⟩ := hx
  have hy : y.toInt = 10 + x.toInt := by rw [e]; exact i32_add (x := 10) (by rw [show (10 : Int32).toInt = 10 from rfl]; omega) (by rw [show (10 : Int32).toInt = 10 from rfl]; omega)
  have a := clampN (x := x) h1
  have b := clampN (x := y) (by omega)
  omega
theorem at20 (e1 : p = 20 * u) (ey : y = p + k) (hu : bt 0 19 u) (hk : bt 0 19 k) : y.toNatClampNeg = 20 * u.toNatClampNeg + k.toNatClampNeg := by
  obtain ⟨h1, h2⟩ := hu
  obtain ⟨h3, h4⟩ := hk
  have hp : p.toInt = 20 * u.toInt := by rw [e1]; exact i32_mul (x := 20) (by rw [show (20 : Int32).toInt = 20 from rfl]; omega) (by rw [show (20 : Int32).toInt = 20 from rfl]; omega)
  have hy : y.toInt = p.toInt + k.toInt := by rw [ey]; exact i32_add (by omega) (by omega)
  have a := clampN (x := u) h1
  have b := clampN (x := k) h3
  have c := clampN (x := y) (by omega)
  omega
theorem td_11 (h : TD t0 t1 t2 t3 f) : bt (-1) 7 (f 11) := h.2.2.2.2 11 (by decide)
theorem kt_cp (hK : KT f) (e : g = upd f x.toNatClampNeg v) (hT : TD t0 t1 t2 t3 h) (ev : v = h y.toNatClampNeg) (ey : y = 10 + x) (hx : bt 0 19 x) : KT g := by
  unfold KT
  rw [e]
  by_cases q : (1 : Nat) = x.toNatClampNeg
  · rw [← q, pk_us, ev, add10 ey hx, ← q]; exact td_11 hT
  · rw [pk_un q]; exact hK
theorem td_set (hT : TD t0 t1 t2 t3 f) (e : g = upd f y.toNatClampNeg v) (h4 : 10 ≤ y.toNatClampNeg) (h5 : y.toNatClampNeg < 30) (hv : y.toNatClampNeg = 11 → bt (-1) 7 v) : TD t0 t1 t2 t3 g := by
  have keep : ∀ j : Nat, j < 4 → g j = f j := fun j hj => by rw [e]; exact pk_un (by omega)
  refine ⟨(keep 0 (by decide)).trans hT.1, (keep 1 (by decide)).trans hT.2.1, (keep 2 (by decide)).trans hT.2.2.1, (keep 3 (by decide)).trans hT.2.2.2.1, fun j hj => ?_⟩
  by_cases hj2 : j = y.toNatClampNeg
  · rw [e, hj2, pk_us]
    by_cases h11 : y.toNatClampNeg = 11
    · rw [h11]; exact hv h11
    · have q1 : tlo y.toNatClampNeg = -2147483648 := by unfold tlo; rw [if_neg (by omega), if_neg h11, if_neg (by omega), if_neg (by omega)]
      have q2 : thi y.toNatClampNeg = 2147483647 := by unfold thi; rw [if_neg (by omega), if_neg (by omega), if_neg (by omega), if_neg (by omega), if_neg h11, if_neg (by omega), if_neg (by omega), if_neg (by omega)]
      rw [q1, q2]; exact bt_all v
  · rw [e, pk_un hj2]; exact hT.2.2.2.2 j hj
theorem td_lb (hT : TD t0 t1 t2 t3 f) (e : g = upd f y.toNatClampNeg v) (ey : y = 10 + x) (hx : bt 0 19 x) (hK : KT h) (ev : v = h x.toNatClampNeg) : TD t0 t1 t2 t3 g := by
  have hy := add10 ey hx
  obtain ⟨h1, h2⟩ := hx
  have a := clampN (x := x) h1
  refine td_set hT e (by omega) (by omega) (fun q => ?_)
  rw [ev, show x.toNatClampNeg = 1 by omega]; exact hK
theorem wt_sh (hW : WT f) (e : g = upd f y.toNatClampNeg v) (ey : y = x - 20) (hx : bt 20 399 x) (ev : v = f x.toNatClampNeg) : WT g := by
  obtain ⟨h1, h2⟩ := hx
  have hy : y.toInt = x.toInt - 20 := by rw [ey]; exact i32_sub (y := 20) (by rw [show (20 : Int32).toInt = 20 from rfl]; omega) (by rw [show (20 : Int32).toInt = 20 from rfl]; omega)
  have a := clampN (x := x) (by omega)
  have b := clampN (x := y) (by omega)
  intro j hj hm
  by_cases q : j = y.toNatClampNeg
  · rw [e, q, pk_us, ev]; exact hW _ (by omega) (by omega)
  · rw [e, pk_un q]; exact hW j hj hm
theorem wt_cp (hW : WT f) (e : g = upd f y.toNatClampNeg v) (e1 : p = 20 * u) (ey : y = p + k) (hu : bt 0 19 u) (hk : bt 0 19 k) (hT : TD t0 t1 t2 t3 h) (ev : v = h z.toNatClampNeg) (ez : z = 10 + k) : WT g := by
  have hy := at20 e1 ey hu hk
  have hz := add10 ez hk
  obtain ⟨h3, h4⟩ := hk
  have a := clampN (x := k) h3
  intro j hj hm
  by_cases q : j = y.toNatClampNeg
  · rw [e, q, pk_us, ev, hz, show k.toNatClampNeg = 1 by omega]; exact td_11 hT
  · rw [e, pk_un q]; exact hW j hj hm
theorem td_un (hT : TD t0 t1 t2 t3 f) (e : g = upd f z.toNatClampNeg v) (ez : z = 10 + k) (hk : bt 0 19 k) (hW : WT h) (e1 : p = 20 * u) (ey : y = p + k) (hu : bt 0 19 u) (ev : v = h y.toNatClampNeg) : TD t0 t1 t2 t3 g := by
  have hy := at20 e1 ey hu hk
  have hz := add10 ez hk
  obtain ⟨h3, h4⟩ := hk
  obtain ⟨h5, h6⟩ := hu
  have a := clampN (x := k) h3
  have b := clampN (x := u) h5
  refine td_set hT e (by omega) (by omega) (fun q => ?_)
  rw [ev, hy]; exact hW _ (by omega) (by omega)
end
set_option maxHeartbeats 4000000 in
set_option maxRecDepth 100000 in
/-- m_keeps -/
theorem m_keeps (l : Launch) (dC : Nat → ClassId) (dI : Nat → Nat → Nat) (sz : Nat) (h0 : Nat) (a_tape : Nat) (m_taped : Int32) (m_rules : Int32) (a_sign : Nat) (a_length : Nat) (a_clause : Nat) (a_clauses : Nat) (a_read : Nat) (m_next : Int32) (m_wrong : Int32) (m_number : Int32) (m_text : Int32) (m_made : Int32) (m_deep : Int32) (m_lines : Int32) (a_open : Nat) (m_opened : Int32) (a_stack : Nat) (m_top : Int32) (a_word : Nat) (a_told : Nat) (m_force : Int32) (m_x : Int32) (m_planned : Int32) (m_isPlanned : Int32) (m_sounds : Int32) (m_spoken : Int32) (a_wasTold : Nat) (m_undone : Int32) (a_kept : Nat) (a_row : Nat) (a_bestRowSoFar : Nat) (m_bestSits : Int32) (m_bestKnown : Int32) (m_bestOut : Int32) (a_hasBy : Nat) (a_isFit : Nat) (a_knowThen : Nat) (m_drawX : Int64) (a_images : Nat) (a_imageForce : Nat) (a_imageX : Nat) (a_isMade : Nat) (ka_told : ClassId) (ga_told : Nat → Int32) (ka_kept : ClassId) (ga_kept : Nat → Int32) (t0 : Int32) (t1 : Int32) (t2 : Int32) (t3 : Int32) (fb_ga_told : TD t0 t1 t2 t3 ga_told) (fb_ga_kept : KT ga_kept) : Met l yX12_keeps (.code yX12_keeps cX12_keeps 2 none :: wsA) ({ frames := 0, cells := 0, slots := 0, locals := 0 }) (va_Pc [.ref h0] (fun U => U.heap.size = sz ∧ va_P (dC, dI) classes [(h0, .inr (12, [.ref a_tape, .int m_taped, .int m_rules, .ref a_sign, .ref a_length, .ref a_clause, .ref a_clauses, .ref a_read, .int m_next, .int m_wrong, .int m_number, .int m_text, .int m_made, .int m_deep, .int m_lines, .ref a_open, .int m_opened, .ref a_stack, .int m_top, .ref a_word, .ref a_told, .int m_force, .int m_x, .int m_planned, .int m_isPlanned, .int m_sounds, .int m_spoken, .ref a_wasTold, .int m_undone, .ref a_kept, .ref a_row, .ref a_bestRowSoFar, .int m_bestSits, .int m_bestKnown, .int m_bestOut, .ref a_hasBy, .ref a_isFit, .ref a_knowThen, .long m_drawX, .ref a_images, .ref a_imageForce, .ref a_imageX, .ref a_isMade])), (a_told, .inl (ka_told, 100, .inl ga_told)), (a_kept, .inl (ka_kept, 20, .inl ga_kept))] U.heap ∧ va_K (dC, dI) classes [(ka_told, .int), (ka_kept, .int)] U ∧ va_D (fun _ => True) [(h0, .inr (12, [.ref a_tape, .int m_taped, .int m_rules, .ref a_sign, .ref a_length, .ref a_clause, .ref a_clauses, .ref a_read, .int m_next, .int m_wrong, .int m_number, .int m_text, .int m_made, .int m_deep, .int m_lines, .ref a_open, .int m_opened, .ref a_stack, .int m_top, .ref a_word, .ref a_told, .int m_force, .int m_x, .int m_planned, .int m_isPlanned, .int m_sounds, .int m_spoken, .ref a_wasTold, .int m_undone, .ref a_kept, .ref a_row, .ref a_bestRowSoFar, .int m_bestSits, .int m_bestKnown, .int m_bestOut, .ref a_hasBy, .ref a_isFit, .ref a_knowThen, .long m_drawX, .ref a_images, .ref a_imageForce, .ref a_imageX, .ref a_isMade])), (a_told, .inl (ka_told, 100, .inl ga_told)), (a_kept, .inl (ka_kept, 20, .inl ga_kept))] ∧ xE U)) (va_Qv (fun (_ : Unit) => True) (fun _ t => ∃ (f_97 : Nat → Int32), KT f_97 ∧ va_P (dC, dI) classes [(h0, .inr (12, [.ref a_tape, .int m_taped, .int m_rules, .ref a_sign, .ref a_length, .ref a_clause, .ref a_clauses, .ref a_read, .int m_next, .int m_wrong, .int m_number, .int m_text, .int m_made, .int m_deep, .int m_lines, .ref a_open, .int m_opened, .ref a_stack, .int m_top, .ref a_word, .ref a_told, .int m_force, .int m_x, .int m_planned, .int m_isPlanned, .int m_sounds, .int m_spoken, .ref a_wasTold, .int m_undone, .ref a_kept, .ref a_row, .ref a_bestRowSoFar, .int m_bestSits, .int m_bestKnown, .int m_bestOut, .ref a_hasBy, .ref a_isFit, .ref a_knowThen, .long m_drawX, .ref a_images, .ref a_imageForce, .ref a_imageX, .ref a_isMade])), (a_told, .inl (ka_told, 100, .inl ga_told)), (a_kept, .inl (ka_kept, 20, .inl f_97))] t.heap ∧ va_K (dC, dI) classes [(ka_told, .int), (ka_kept, .int)] t ∧ va_D (va_A [(h0, .inr (12, [.ref a_tape, .int m_taped, .int m_rules, .ref a_sign, .ref a_length, .ref a_clause, .ref a_clauses, .ref a_read, .int m_next, .int m_wrong, .int m_number, .int m_text, .int m_made, .int m_deep, .int m_lines, .ref a_open, .int m_opened, .ref a_stack, .int m_top, .ref a_word, .ref a_told, .int m_force, .int m_x, .int m_planned, .int m_isPlanned, .int m_sounds, .int m_spoken, .ref a_wasTold, .int m_undone, .ref a_kept, .ref a_row, .ref a_bestRowSoFar, .int m_bestSits, .int m_bestKnown, .int m_bestOut, .ref a_hasBy, .ref a_isFit, .ref a_knowThen, .long m_drawX, .ref a_images, .ref a_imageForce, .ref a_imageX, .ref a_isMade])), (a_told, .inl (ka_told, 100, .inl ga_told)), (a_kept, .inl (ka_kept, 20, .inl ga_kept))] sz) [(h0, .inr (12, [.ref a_tape, .int m_taped, .int m_rules, .ref a_sign, .ref a_length, .ref a_clause, .ref a_clauses, .ref a_read, .int m_next, .int m_wrong, .int m_number, .int m_text, .int m_made, .int m_deep, .int m_lines, .ref a_open, .int m_opened, .ref a_stack, .int m_top, .ref a_word, .ref a_told, .int m_force, .int m_x, .int m_planned, .int m_isPlanned, .int m_sounds, .int m_spoken, .ref a_wasTold, .int m_undone, .ref a_kept, .ref a_row, .ref a_bestRowSoFar, .int m_bestSits, .int m_bestKnown, .int m_bestOut, .ref a_hasBy, .ref a_isFit, .ref a_knowThen, .long m_drawX, .ref a_images, .ref a_imageForce, .ref a_imageX, .ref a_isMade])), (a_told, .inl (ka_told, 100, .inl ga_told)), (a_kept, .inl (ka_kept, 20, .inl f_97))]) (va_A [(h0, .inr (12, [.ref a_tape, .int m_taped, .int m_rules, .ref a_sign, .ref a_length, .ref a_clause, .ref a_clauses, .ref a_read, .int m_next, .int m_wrong, .int m_number, .int m_text, .int m_made, .int m_deep, .int m_lines, .ref a_open, .int m_opened, .ref a_stack, .int m_top, .ref a_word, .ref a_told, .int m_force, .int m_x, .int m_planned, .int m_isPlanned, .int m_sounds, .int m_spoken, .ref a_wasTold, .int m_undone, .ref a_kept, .ref a_row, .ref a_bestRowSoFar, .int m_bestSits, .int m_bestKnown, .int m_bestOut, .ref a_hasBy, .ref a_isFit, .ref a_knowThen, .long m_drawX, .ref a_images, .ref a_imageForce, .ref a_imageX, .ref a_isMade])), (a_told, .inl (ka_told, 100, .inl ga_told)), (a_kept, .inl (ka_kept, 20, .inl ga_kept))] sz)) 0 0 (va_A [(h0, .inr (12, [.ref a_tape, .int m_taped, .int m_rules, .ref a_sign, .ref a_length, .ref a_clause, .ref a_clauses, .ref a_read, .int m_next, .int m_wrong, .int m_number, .int m_text, .int m_made, .int m_deep, .int m_lines, .ref a_open, .int m_opened, .ref a_stack, .int m_top, .ref a_word, .ref a_told, .int m_force, .int m_x, .int m_planned, .int m_isPlanned, .int m_sounds, .int m_spoken, .ref a_wasTold, .int m_undone, .ref a_kept, .ref a_row, .ref a_bestRowSoFar, .int m_bestSits, .int m_bestKnown, .int m_bestOut, .ref a_hasBy, .ref a_isFit, .ref a_knowThen, .long m_drawX, .ref a_images, .ref a_imageForce, .ref a_imageX, .ref a_isMade])), (a_told, .inl (ka_told, 100, .inl ga_told)), (a_kept, .inl (ka_kept, 20, .inl ga_kept))] sz) := by
  refine Met.ofW (cc := cX12_keeps) (maxL := 2) (ret := none) (by decide) rfl ?_
  intro p e s m args below meth c s₁ B hml hv
  obtain ⟨rfl, hsz, hP, hK, hD0, hE⟩ := hv
  have hx := B.exec
  have hb := B.bytes
  have hr := B.returns
  have hts := atoms_spec (ws := .code yX12_keeps cX12_keeps 2 none :: wsA) B.pre
  have hq : ∀ w ∈ wsA, w.before _ s = true := fun w h => hts w (List.mem_cons_of_mem _ h)
  have hown : s.vm.findClass RX12 = some m.cls := findClass_of_methodNamed B.named
  have hlocks := B.notSynchronized
  subst hsz
  have hD := hD0.self (sz := s.heap.size)
  generalize hAe : va_A [(h0, .inr (12, [.ref a_tape, .int m_taped, .int m_rules, .ref a_sign, .ref a_length, .ref a_clause, .ref a_clauses, .ref a_read, .int m_next, .int m_wrong, .int m_number, .int m_text, .int m_made, .int m_deep, .int m_lines, .ref a_open, .int m_opened, .ref a_stack, .int m_top, .ref a_word, .ref a_told, .int m_force, .int m_x, .int m_planned, .int m_isPlanned, .int m_sounds, .int m_spoken, .ref a_wasTold, .int m_undone, .ref a_kept, .ref a_row, .ref a_bestRowSoFar, .int m_bestSits, .int m_bestKnown, .int m_bestOut, .ref a_hasBy, .ref a_isFit, .ref a_knowThen, .long m_drawX, .ref a_images, .ref a_imageForce, .ref a_imageX, .ref a_isMade])), (a_told, .inl (ka_told, 100, .inl ga_told)), (a_kept, .inl (ka_kept, 20, .inl ga_kept))] s.heap.size = A at hD ⊢
  have hA : ∀ q : Nat, s.heap.size ≤ q → A q := fun q h => by rw [← hAe]; exact Or.inr h
  have hS : va_S A s.heap s.heap [] := va_S.rf
  have hl := lv_entry ([.ref h0]) (n := 2) (Nat.le_of_ble_eq_true rfl)
  rw [lg_entry_eq]
  generalize (lg_sl ([.ref h0]) ++ List.replicate (2 - (lg_sl ([.ref h0])).length) Slot.unset).toArray = ls at hl ⊢
  have hl : lv_has ls 2 [(0, .ref h0)] := hl
  refine lv_iconst (v := 0) hx hb dX12_keeps_0 (by decide) ?_
  refine lv_istore_n (lv' := [(1, .int 0), (0, .ref h0)]) hx hb dX12_keeps_1 rfl hl (by decide) rfl (fun ls hl => ?_)
  refine W.loop (I := fun n H locs g => ∃ (y_98 : Int32) (f_105 : Nat → Int32) (ls : Array Slot), bt 0 20 y_98 ∧ KT f_105 ∧ 20 - y_98.toInt < (n : Int) ∧ va_P (dC, dI) classes [(h0, .inr (12, [.ref a_tape, .int m_taped, .int m_rules, .ref a_sign, .ref a_length, .ref a_clause, .ref a_clauses, .ref a_read, .int m_next, .int m_wrong, .int m_number, .int m_text, .int m_made, .int m_deep, .int m_lines, .ref a_open, .int m_opened, .ref a_stack, .int m_top, .ref a_word, .ref a_told, .int m_force, .int m_x, .int m_planned, .int m_isPlanned, .int m_sounds, .int m_spoken, .ref a_wasTold, .int m_undone, .ref a_kept, .ref a_row, .ref a_bestRowSoFar, .int m_bestSits, .int m_bestKnown, .int m_bestOut, .ref a_hasBy, .ref a_isFit, .ref a_knowThen, .long m_drawX, .ref a_images, .ref a_imageForce, .ref a_imageX, .ref a_isMade])), (a_told, .inl (ka_told, 100, .inl ga_told)), (a_kept, .inl (ka_kept, 20, .inl f_105))] H ∧ va_D A [(h0, .inr (12, [.ref a_tape, .int m_taped, .int m_rules, .ref a_sign, .ref a_length, .ref a_clause, .ref a_clauses, .ref a_read, .int m_next, .int m_wrong, .int m_number, .int m_text, .int m_made, .int m_deep, .int m_lines, .ref a_open, .int m_opened, .ref a_stack, .int m_top, .ref a_word, .ref a_told, .int m_force, .int m_x, .int m_planned, .int m_isPlanned, .int m_sounds, .int m_spoken, .ref a_wasTold, .int m_undone, .ref a_kept, .ref a_row, .ref a_bestRowSoFar, .int m_bestSits, .int m_bestKnown, .int m_bestOut, .ref a_hasBy, .ref a_isFit, .ref a_knowThen, .long m_drawX, .ref a_images, .ref a_imageForce, .ref a_imageX, .ref a_isMade])), (a_told, .inl (ka_told, 100, .inl ga_told)), (a_kept, .inl (ka_kept, 20, .inl f_105))] ∧ va_S A s.heap H locs ∧ lv_has ls 2 [(1, .int y_98), (0, .ref h0)] ∧ g = F0 m 2 ls []) (fun H locs g h => ?_) (fun n ih2 H locs g h => ?_) (n := 21) ⟨0, ga_kept, _, (bt_w (lo := 0) (hi := 20) (bt_k (x := 0) (c := 0) (by decide)) (by decide)), fb_ga_kept, (ms_0 (bt_k (x := 0) (c := 0) (by decide)) (by decide)), hP, hD, hS, hl, rfl⟩
  · obtain ⟨y_98, f_105, ls, bd_v_1, fd_a_a_kept, hm, hP, hD, hS, hl, rfl⟩ := h
    exact ms_z bd_v_1 hm
  · obtain ⟨y_98, f_105, ls, bd_v_1, fd_a_a_kept, hm2, hP, hD, hS, hl, rfl⟩ := h
    refine lv_iload_n hx hb dX12_keeps_2 rfl (lv_at hl 0 rfl) ?_
    refine lv_bipush (v := 20) hx hb dX12_keeps_3 (by decide) ?_
    refine lv_icmp_ge (tgt := 29) hx hb dX12_keeps_5 (by decide) (fun c_187 => ?_) (fun c_187 => ?_)
    · refine W.widen (k := 0) (n := 0) (Nat.le_of_ble_eq_true rfl) (Nat.le_of_ble_eq_true rfl) ?_
      exact W.vret hx hb hr (fun t ht hW => ⟨⟨(), rfl, trivial, f_105, fd_a_a_kept, by rw [ht]; exact hP, va_K.moved hW.alike hK, hD⟩, hS.F ht⟩) hS.2.2 dX12_keeps_29
    · refine lv_aload_n hx hb dX12_keeps_8 rfl (lv_at hl 1 rfl) ?_
      refine va_get (D := (dC, dI)) (ci := 12) (v := .ref a_kept) (C := RX12) (T := TX12) (N := 43) hx hb hq inX12 hown hK hP 0 rfl rfl 29 (by decide) (hq _ qw_1189) (fun _ h9 => h9) rfl dX12_keeps_9 ?_
      refine lv_iload_n hx hb dX12_keeps_12 rfl (lv_at hl 0 rfl) ?_
      refine lv_aload_n hx hb dX12_keeps_13 rfl (lv_at hl 1 rfl) ?_
      refine va_get (D := (dC, dI)) (ci := 12) (v := .ref a_told) (C := RX12) (T := TX12) (N := 43) hx hb hq inX12 hown hK hP 0 rfl rfl 20 (by decide) (hq _ qw_1180) (fun _ h9 => h9) rfl dX12_keeps_14 ?_
      refine lv_bipush (v := 10) hx hb dX12_keeps_17 (by decide) ?_
      refine lv_iload_n hx hb dX12_keeps_19 rfl (lv_at hl 0 rfl) ?_
      refine lv_iadd hx hb dX12_keeps_20 ?_
      refine lv_topi (fun y_188 ey_188 => ?_)
      have b_189 : bt 0 19 y_98 := rf_lt_l bd_v_1 (bt_k (x := 20) (c := 20) (by decide)) (Int32.not_le.mp c_187) (by decide)
      have b_190 : bt 10 29 y_188 := bt_add ey_188 (bt_k (x := 10) (c := 10) (by decide)) b_189 (by decide)
      refine va_iald hx hb hK hP 1 0 rfl rfl (bt_in b_190 (by decide)) dX12_keeps_21 ?_
      refine lv_topi (fun y_191 ey_191 => ?_)
      refine va_iast hx hb hK hP hD hS 2 1 rfl rfl (bt_in b_189 (by decide)) dX12_keeps_22 (fun H locs hP hD hS => ?_)
      obtain ⟨f_192, ef_192⟩ : ∃ f, f = upd f_105 (Int32.toNatClampNeg y_98) y_191 := ⟨_, rfl⟩
      rw [← ef_192] at hP hD
      have hP : va_P (dC, dI) classes [(h0, .inr (12, [.ref a_tape, .int m_taped, .int m_rules, .ref a_sign, .ref a_length, .ref a_clause, .ref a_clauses, .ref a_read, .int m_next, .int m_wrong, .int m_number, .int m_text, .int m_made, .int m_deep, .int m_lines, .ref a_open, .int m_opened, .ref a_stack, .int m_top, .ref a_word, .ref a_told, .int m_force, .int m_x, .int m_planned, .int m_isPlanned, .int m_sounds, .int m_spoken, .ref a_wasTold, .int m_undone, .ref a_kept, .ref a_row, .ref a_bestRowSoFar, .int m_bestSits, .int m_bestKnown, .int m_bestOut, .ref a_hasBy, .ref a_isFit, .ref a_knowThen, .long m_drawX, .ref a_images, .ref a_imageForce, .ref a_imageX, .ref a_isMade])), (a_told, .inl (ka_told, 100, .inl ga_told)), (a_kept, .inl (ka_kept, 20, .inl f_192))] H := hP
      have hD : va_D A [(h0, .inr (12, [.ref a_tape, .int m_taped, .int m_rules, .ref a_sign, .ref a_length, .ref a_clause, .ref a_clauses, .ref a_read, .int m_next, .int m_wrong, .int m_number, .int m_text, .int m_made, .int m_deep, .int m_lines, .ref a_open, .int m_opened, .ref a_stack, .int m_top, .ref a_word, .ref a_told, .int m_force, .int m_x, .int m_planned, .int m_isPlanned, .int m_sounds, .int m_spoken, .ref a_wasTold, .int m_undone, .ref a_kept, .ref a_row, .ref a_bestRowSoFar, .int m_bestSits, .int m_bestKnown, .int m_bestOut, .ref a_hasBy, .ref a_isFit, .ref a_knowThen, .long m_drawX, .ref a_images, .ref a_imageForce, .ref a_imageX, .ref a_isMade])), (a_told, .inl (ka_told, 100, .inl ga_told)), (a_kept, .inl (ka_kept, 20, .inl f_192))] := hD
      obtain ⟨y_193, ey_193⟩ : ∃ y : Int32, y = y_98 + 1 := ⟨_, rfl⟩
      refine lv_iinc (v := y_193) (lv' := [(1, .int y_193), (0, .ref h0)]) hx hb dX12_keeps_23 hl (k := 0) rfl (by rw [ey_193]; rfl) (by decide) rfl (fun ls hl => ?_)
      refine lv_goto (tgt := 2) hx hb dX12_keeps_26 (by decide) ?_
      have b_194 : bt 1 20 y_193 := bt_add ey_193 b_189 (bt_k (x := 1) (c := 1) (by decide)) (by decide)
      have d_195 : KT f_192 := kt_cp fd_a_a_kept ef_192 fb_ga_told ey_191 ey_188 b_189
      exact ih2 _ _ _ ⟨y_193, f_192, _, (bt_w (lo := 0) (hi := 20) b_194 (by decide)), d_195, (ms_s ey_193 b_189 hm2 (by decide)), hP, hD, hS, hl, rfl⟩

set_option maxHeartbeats 4000000 in
set_option maxRecDepth 100000 in
/-- m_laysBack -/
theorem m_laysBack (l : Launch) (dC : Nat → ClassId) (dI : Nat → Nat → Nat) (sz : Nat) (h0 : Nat) (a_tape : Nat) (m_taped : Int32) (m_rules : Int32) (a_sign : Nat) (a_length : Nat) (a_clause : Nat) (a_clauses : Nat) (a_read : Nat) (m_next : Int32) (m_wrong : Int32) (m_number : Int32) (m_text : Int32) (m_made : Int32) (m_deep : Int32) (m_lines : Int32) (a_open : Nat) (m_opened : Int32) (a_stack : Nat) (m_top : Int32) (a_word : Nat) (a_told : Nat) (m_force : Int32) (m_x : Int32) (m_planned : Int32) (m_isPlanned : Int32) (m_sounds : Int32) (m_spoken : Int32) (a_wasTold : Nat) (m_undone : Int32) (a_kept : Nat) (a_row : Nat) (a_bestRowSoFar : Nat) (m_bestSits : Int32) (m_bestKnown : Int32) (m_bestOut : Int32) (a_hasBy : Nat) (a_isFit : Nat) (a_knowThen : Nat) (m_drawX : Int64) (a_images : Nat) (a_imageForce : Nat) (a_imageX : Nat) (a_isMade : Nat) (ka_told : ClassId) (ga_told : Nat → Int32) (ka_kept : ClassId) (ga_kept : Nat → Int32) (t0 : Int32) (t1 : Int32) (t2 : Int32) (t3 : Int32) (fb_ga_told : TD t0 t1 t2 t3 ga_told) (fb_ga_kept : KT ga_kept) : Met l yX12_laysBack (.code yX12_laysBack cX12_laysBack 2 none :: wsA) ({ frames := 0, cells := 0, slots := 0, locals := 0 }) (va_Pc [.ref h0] (fun U => U.heap.size = sz ∧ va_P (dC, dI) classes [(h0, .inr (12, [.ref a_tape, .int m_taped, .int m_rules, .ref a_sign, .ref a_length, .ref a_clause, .ref a_clauses, .ref a_read, .int m_next, .int m_wrong, .int m_number, .int m_text, .int m_made, .int m_deep, .int m_lines, .ref a_open, .int m_opened, .ref a_stack, .int m_top, .ref a_word, .ref a_told, .int m_force, .int m_x, .int m_planned, .int m_isPlanned, .int m_sounds, .int m_spoken, .ref a_wasTold, .int m_undone, .ref a_kept, .ref a_row, .ref a_bestRowSoFar, .int m_bestSits, .int m_bestKnown, .int m_bestOut, .ref a_hasBy, .ref a_isFit, .ref a_knowThen, .long m_drawX, .ref a_images, .ref a_imageForce, .ref a_imageX, .ref a_isMade])), (a_told, .inl (ka_told, 100, .inl ga_told)), (a_kept, .inl (ka_kept, 20, .inl ga_kept))] U.heap ∧ va_K (dC, dI) classes [(ka_told, .int), (ka_kept, .int)] U ∧ va_D (fun _ => True) [(h0, .inr (12, [.ref a_tape, .int m_taped, .int m_rules, .ref a_sign, .ref a_length, .ref a_clause, .ref a_clauses, .ref a_read, .int m_next, .int m_wrong, .int m_number, .int m_text, .int m_made, .int m_deep, .int m_lines, .ref a_open, .int m_opened, .ref a_stack, .int m_top, .ref a_word, .ref a_told, .int m_force, .int m_x, .int m_planned, .int m_isPlanned, .int m_sounds, .int m_spoken, .ref a_wasTold, .int m_undone, .ref a_kept, .ref a_row, .ref a_bestRowSoFar, .int m_bestSits, .int m_bestKnown, .int m_bestOut, .ref a_hasBy, .ref a_isFit, .ref a_knowThen, .long m_drawX, .ref a_images, .ref a_imageForce, .ref a_imageX, .ref a_isMade])), (a_told, .inl (ka_told, 100, .inl ga_told)), (a_kept, .inl (ka_kept, 20, .inl ga_kept))] ∧ xE U)) (va_Qv (fun (_ : Unit) => True) (fun _ t => ∃ (f_97 : Nat → Int32), TD t0 t1 t2 t3 f_97 ∧ va_P (dC, dI) classes [(h0, .inr (12, [.ref a_tape, .int m_taped, .int m_rules, .ref a_sign, .ref a_length, .ref a_clause, .ref a_clauses, .ref a_read, .int m_next, .int m_wrong, .int m_number, .int m_text, .int m_made, .int m_deep, .int m_lines, .ref a_open, .int m_opened, .ref a_stack, .int m_top, .ref a_word, .ref a_told, .int m_force, .int m_x, .int m_planned, .int m_isPlanned, .int m_sounds, .int m_spoken, .ref a_wasTold, .int m_undone, .ref a_kept, .ref a_row, .ref a_bestRowSoFar, .int m_bestSits, .int m_bestKnown, .int m_bestOut, .ref a_hasBy, .ref a_isFit, .ref a_knowThen, .long m_drawX, .ref a_images, .ref a_imageForce, .ref a_imageX, .ref a_isMade])), (a_told, .inl (ka_told, 100, .inl f_97)), (a_kept, .inl (ka_kept, 20, .inl ga_kept))] t.heap ∧ va_K (dC, dI) classes [(ka_told, .int), (ka_kept, .int)] t ∧ va_D (va_A [(h0, .inr (12, [.ref a_tape, .int m_taped, .int m_rules, .ref a_sign, .ref a_length, .ref a_clause, .ref a_clauses, .ref a_read, .int m_next, .int m_wrong, .int m_number, .int m_text, .int m_made, .int m_deep, .int m_lines, .ref a_open, .int m_opened, .ref a_stack, .int m_top, .ref a_word, .ref a_told, .int m_force, .int m_x, .int m_planned, .int m_isPlanned, .int m_sounds, .int m_spoken, .ref a_wasTold, .int m_undone, .ref a_kept, .ref a_row, .ref a_bestRowSoFar, .int m_bestSits, .int m_bestKnown, .int m_bestOut, .ref a_hasBy, .ref a_isFit, .ref a_knowThen, .long m_drawX, .ref a_images, .ref a_imageForce, .ref a_imageX, .ref a_isMade])), (a_told, .inl (ka_told, 100, .inl ga_told)), (a_kept, .inl (ka_kept, 20, .inl ga_kept))] sz) [(h0, .inr (12, [.ref a_tape, .int m_taped, .int m_rules, .ref a_sign, .ref a_length, .ref a_clause, .ref a_clauses, .ref a_read, .int m_next, .int m_wrong, .int m_number, .int m_text, .int m_made, .int m_deep, .int m_lines, .ref a_open, .int m_opened, .ref a_stack, .int m_top, .ref a_word, .ref a_told, .int m_force, .int m_x, .int m_planned, .int m_isPlanned, .int m_sounds, .int m_spoken, .ref a_wasTold, .int m_undone, .ref a_kept, .ref a_row, .ref a_bestRowSoFar, .int m_bestSits, .int m_bestKnown, .int m_bestOut, .ref a_hasBy, .ref a_isFit, .ref a_knowThen, .long m_drawX, .ref a_images, .ref a_imageForce, .ref a_imageX, .ref a_isMade])), (a_told, .inl (ka_told, 100, .inl f_97)), (a_kept, .inl (ka_kept, 20, .inl ga_kept))]) (va_A [(h0, .inr (12, [.ref a_tape, .int m_taped, .int m_rules, .ref a_sign, .ref a_length, .ref a_clause, .ref a_clauses, .ref a_read, .int m_next, .int m_wrong, .int m_number, .int m_text, .int m_made, .int m_deep, .int m_lines, .ref a_open, .int m_opened, .ref a_stack, .int m_top, .ref a_word, .ref a_told, .int m_force, .int m_x, .int m_planned, .int m_isPlanned, .int m_sounds, .int m_spoken, .ref a_wasTold, .int m_undone, .ref a_kept, .ref a_row, .ref a_bestRowSoFar, .int m_bestSits, .int m_bestKnown, .int m_bestOut, .ref a_hasBy, .ref a_isFit, .ref a_knowThen, .long m_drawX, .ref a_images, .ref a_imageForce, .ref a_imageX, .ref a_isMade])), (a_told, .inl (ka_told, 100, .inl ga_told)), (a_kept, .inl (ka_kept, 20, .inl ga_kept))] sz)) 0 0 (va_A [(h0, .inr (12, [.ref a_tape, .int m_taped, .int m_rules, .ref a_sign, .ref a_length, .ref a_clause, .ref a_clauses, .ref a_read, .int m_next, .int m_wrong, .int m_number, .int m_text, .int m_made, .int m_deep, .int m_lines, .ref a_open, .int m_opened, .ref a_stack, .int m_top, .ref a_word, .ref a_told, .int m_force, .int m_x, .int m_planned, .int m_isPlanned, .int m_sounds, .int m_spoken, .ref a_wasTold, .int m_undone, .ref a_kept, .ref a_row, .ref a_bestRowSoFar, .int m_bestSits, .int m_bestKnown, .int m_bestOut, .ref a_hasBy, .ref a_isFit, .ref a_knowThen, .long m_drawX, .ref a_images, .ref a_imageForce, .ref a_imageX, .ref a_isMade])), (a_told, .inl (ka_told, 100, .inl ga_told)), (a_kept, .inl (ka_kept, 20, .inl ga_kept))] sz) := by
  refine Met.ofW (cc := cX12_laysBack) (maxL := 2) (ret := none) (by decide) rfl ?_
  intro p e s m args below meth c s₁ B hml hv
  obtain ⟨rfl, hsz, hP, hK, hD0, hE⟩ := hv
  have hx := B.exec
  have hb := B.bytes
  have hr := B.returns
  have hts := atoms_spec (ws := .code yX12_laysBack cX12_laysBack 2 none :: wsA) B.pre
  have hq : ∀ w ∈ wsA, w.before _ s = true := fun w h => hts w (List.mem_cons_of_mem _ h)
  have hown : s.vm.findClass RX12 = some m.cls := findClass_of_methodNamed B.named
  have hlocks := B.notSynchronized
  subst hsz
  have hD := hD0.self (sz := s.heap.size)
  generalize hAe : va_A [(h0, .inr (12, [.ref a_tape, .int m_taped, .int m_rules, .ref a_sign, .ref a_length, .ref a_clause, .ref a_clauses, .ref a_read, .int m_next, .int m_wrong, .int m_number, .int m_text, .int m_made, .int m_deep, .int m_lines, .ref a_open, .int m_opened, .ref a_stack, .int m_top, .ref a_word, .ref a_told, .int m_force, .int m_x, .int m_planned, .int m_isPlanned, .int m_sounds, .int m_spoken, .ref a_wasTold, .int m_undone, .ref a_kept, .ref a_row, .ref a_bestRowSoFar, .int m_bestSits, .int m_bestKnown, .int m_bestOut, .ref a_hasBy, .ref a_isFit, .ref a_knowThen, .long m_drawX, .ref a_images, .ref a_imageForce, .ref a_imageX, .ref a_isMade])), (a_told, .inl (ka_told, 100, .inl ga_told)), (a_kept, .inl (ka_kept, 20, .inl ga_kept))] s.heap.size = A at hD ⊢
  have hA : ∀ q : Nat, s.heap.size ≤ q → A q := fun q h => by rw [← hAe]; exact Or.inr h
  have hS : va_S A s.heap s.heap [] := va_S.rf
  have hl := lv_entry ([.ref h0]) (n := 2) (Nat.le_of_ble_eq_true rfl)
  rw [lg_entry_eq]
  generalize (lg_sl ([.ref h0]) ++ List.replicate (2 - (lg_sl ([.ref h0])).length) Slot.unset).toArray = ls at hl ⊢
  have hl : lv_has ls 2 [(0, .ref h0)] := hl
  refine lv_iconst (v := 0) hx hb dX12_laysBack_0 (by decide) ?_
  refine lv_istore_n (lv' := [(1, .int 0), (0, .ref h0)]) hx hb dX12_laysBack_1 rfl hl (by decide) rfl (fun ls hl => ?_)
  refine W.loop (I := fun n H locs g => ∃ (y_98 : Int32) (f_105 : Nat → Int32) (ls : Array Slot), bt 0 20 y_98 ∧ TD t0 t1 t2 t3 f_105 ∧ 20 - y_98.toInt < (n : Int) ∧ va_P (dC, dI) classes [(h0, .inr (12, [.ref a_tape, .int m_taped, .int m_rules, .ref a_sign, .ref a_length, .ref a_clause, .ref a_clauses, .ref a_read, .int m_next, .int m_wrong, .int m_number, .int m_text, .int m_made, .int m_deep, .int m_lines, .ref a_open, .int m_opened, .ref a_stack, .int m_top, .ref a_word, .ref a_told, .int m_force, .int m_x, .int m_planned, .int m_isPlanned, .int m_sounds, .int m_spoken, .ref a_wasTold, .int m_undone, .ref a_kept, .ref a_row, .ref a_bestRowSoFar, .int m_bestSits, .int m_bestKnown, .int m_bestOut, .ref a_hasBy, .ref a_isFit, .ref a_knowThen, .long m_drawX, .ref a_images, .ref a_imageForce, .ref a_imageX, .ref a_isMade])), (a_told, .inl (ka_told, 100, .inl f_105)), (a_kept, .inl (ka_kept, 20, .inl ga_kept))] H ∧ va_D A [(h0, .inr (12, [.ref a_tape, .int m_taped, .int m_rules, .ref a_sign, .ref a_length, .ref a_clause, .ref a_clauses, .ref a_read, .int m_next, .int m_wrong, .int m_number, .int m_text, .int m_made, .int m_deep, .int m_lines, .ref a_open, .int m_opened, .ref a_stack, .int m_top, .ref a_word, .ref a_told, .int m_force, .int m_x, .int m_planned, .int m_isPlanned, .int m_sounds, .int m_spoken, .ref a_wasTold, .int m_undone, .ref a_kept, .ref a_row, .ref a_bestRowSoFar, .int m_bestSits, .int m_bestKnown, .int m_bestOut, .ref a_hasBy, .ref a_isFit, .ref a_knowThen, .long m_drawX, .ref a_images, .ref a_imageForce, .ref a_imageX, .ref a_isMade])), (a_told, .inl (ka_told, 100, .inl f_105)), (a_kept, .inl (ka_kept, 20, .inl ga_kept))] ∧ va_S A s.heap H locs ∧ lv_has ls 2 [(1, .int y_98), (0, .ref h0)] ∧ g = F0 m 2 ls []) (fun H locs g h => ?_) (fun n ih2 H locs g h => ?_) (n := 21) ⟨0, ga_told, _, (bt_w (lo := 0) (hi := 20) (bt_k (x := 0) (c := 0) (by decide)) (by decide)), fb_ga_told, (ms_0 (bt_k (x := 0) (c := 0) (by decide)) (by decide)), hP, hD, hS, hl, rfl⟩
  · obtain ⟨y_98, f_105, ls, bd_v_1, fd_a_a_told, hm, hP, hD, hS, hl, rfl⟩ := h
    exact ms_z bd_v_1 hm
  · obtain ⟨y_98, f_105, ls, bd_v_1, fd_a_a_told, hm2, hP, hD, hS, hl, rfl⟩ := h
    refine lv_iload_n hx hb dX12_laysBack_2 rfl (lv_at hl 0 rfl) ?_
    refine lv_bipush (v := 20) hx hb dX12_laysBack_3 (by decide) ?_
    refine lv_icmp_ge (tgt := 29) hx hb dX12_laysBack_5 (by decide) (fun c_187 => ?_) (fun c_187 => ?_)
    · refine W.widen (k := 0) (n := 0) (Nat.le_of_ble_eq_true rfl) (Nat.le_of_ble_eq_true rfl) ?_
      exact W.vret hx hb hr (fun t ht hW => ⟨⟨(), rfl, trivial, f_105, fd_a_a_told, by rw [ht]; exact hP, va_K.moved hW.alike hK, hD⟩, hS.F ht⟩) hS.2.2 dX12_laysBack_29
    · refine lv_aload_n hx hb dX12_laysBack_8 rfl (lv_at hl 1 rfl) ?_
      refine va_get (D := (dC, dI)) (ci := 12) (v := .ref a_told) (C := RX12) (T := TX12) (N := 43) hx hb hq inX12 hown hK hP 0 rfl rfl 20 (by decide) (hq _ qw_1180) (fun _ h9 => h9) rfl dX12_laysBack_9 ?_
      refine lv_bipush (v := 10) hx hb dX12_laysBack_12 (by decide) ?_
      refine lv_iload_n hx hb dX12_laysBack_14 rfl (lv_at hl 0 rfl) ?_
      refine lv_iadd hx hb dX12_laysBack_15 ?_
      refine lv_topi (fun y_188 ey_188 => ?_)
      refine lv_aload_n hx hb dX12_laysBack_16 rfl (lv_at hl 1 rfl) ?_
      refine va_get (D := (dC, dI)) (ci := 12) (v := .ref a_kept) (C := RX12) (T := TX12) (N := 43) hx hb hq inX12 hown hK hP 0 rfl rfl 29 (by decide) (hq _ qw_1189) (fun _ h9 => h9) rfl dX12_laysBack_17 ?_
      refine lv_iload_n hx hb dX12_laysBack_20 rfl (lv_at hl 0 rfl) ?_
      have b_189 : bt 0 19 y_98 := rf_lt_l bd_v_1 (bt_k (x := 20) (c := 20) (by decide)) (Int32.not_le.mp c_187) (by decide)
      refine va_iald hx hb hK hP 2 1 rfl rfl (bt_in b_189 (by decide)) dX12_laysBack_21 ?_
      refine lv_topi (fun y_190 ey_190 => ?_)
      have b_191 : bt 10 29 y_188 := bt_add ey_188 (bt_k (x := 10) (c := 10) (by decide)) b_189 (by decide)
      refine va_iast hx hb hK hP hD hS 1 0 rfl rfl (bt_in b_191 (by decide)) dX12_laysBack_22 (fun H locs hP hD hS => ?_)
      obtain ⟨f_192, ef_192⟩ : ∃ f, f = upd f_105 (Int32.toNatClampNeg y_188) y_190 := ⟨_, rfl⟩
      rw [← ef_192] at hP hD
      have hP : va_P (dC, dI) classes [(h0, .inr (12, [.ref a_tape, .int m_taped, .int m_rules, .ref a_sign, .ref a_length, .ref a_clause, .ref a_clauses, .ref a_read, .int m_next, .int m_wrong, .int m_number, .int m_text, .int m_made, .int m_deep, .int m_lines, .ref a_open, .int m_opened, .ref a_stack, .int m_top, .ref a_word, .ref a_told, .int m_force, .int m_x, .int m_planned, .int m_isPlanned, .int m_sounds, .int m_spoken, .ref a_wasTold, .int m_undone, .ref a_kept, .ref a_row, .ref a_bestRowSoFar, .int m_bestSits, .int m_bestKnown, .int m_bestOut, .ref a_hasBy, .ref a_isFit, .ref a_knowThen, .long m_drawX, .ref a_images, .ref a_imageForce, .ref a_imageX, .ref a_isMade])), (a_told, .inl (ka_told, 100, .inl f_192)), (a_kept, .inl (ka_kept, 20, .inl ga_kept))] H := hP
      have hD : va_D A [(h0, .inr (12, [.ref a_tape, .int m_taped, .int m_rules, .ref a_sign, .ref a_length, .ref a_clause, .ref a_clauses, .ref a_read, .int m_next, .int m_wrong, .int m_number, .int m_text, .int m_made, .int m_deep, .int m_lines, .ref a_open, .int m_opened, .ref a_stack, .int m_top, .ref a_word, .ref a_told, .int m_force, .int m_x, .int m_planned, .int m_isPlanned, .int m_sounds, .int m_spoken, .ref a_wasTold, .int m_undone, .ref a_kept, .ref a_row, .ref a_bestRowSoFar, .int m_bestSits, .int m_bestKnown, .int m_bestOut, .ref a_hasBy, .ref a_isFit, .ref a_knowThen, .long m_drawX, .ref a_images, .ref a_imageForce, .ref a_imageX, .ref a_isMade])), (a_told, .inl (ka_told, 100, .inl f_192)), (a_kept, .inl (ka_kept, 20, .inl ga_kept))] := hD
      obtain ⟨y_193, ey_193⟩ : ∃ y : Int32, y = y_98 + 1 := ⟨_, rfl⟩
      refine lv_iinc (v := y_193) (lv' := [(1, .int y_193), (0, .ref h0)]) hx hb dX12_laysBack_23 hl (k := 0) rfl (by rw [ey_193]; rfl) (by decide) rfl (fun ls hl => ?_)
      refine lv_goto (tgt := 2) hx hb dX12_laysBack_26 (by decide) ?_
      have b_194 : bt 1 20 y_193 := bt_add ey_193 b_189 (bt_k (x := 1) (c := 1) (by decide)) (by decide)
      have d_195 : TD t0 t1 t2 t3 f_192 := td_lb fd_a_a_told ef_192 ey_188 b_189 fb_ga_kept ey_190
      exact ih2 _ _ _ ⟨y_193, f_192, _, (bt_w (lo := 0) (hi := 20) b_194 (by decide)), d_195, (ms_s ey_193 b_189 hm2 (by decide)), hP, hD, hS, hl, rfl⟩

set_option maxHeartbeats 4000000 in
set_option maxRecDepth 100000 in
/-- m_keepsAct -/
theorem m_keepsAct (l : Launch) (dC : Nat → ClassId) (dI : Nat → Nat → Nat) (sz : Nat) (h0 : Nat) (a_tape : Nat) (m_taped : Int32) (m_rules : Int32) (a_sign : Nat) (a_length : Nat) (a_clause : Nat) (a_clauses : Nat) (a_read : Nat) (m_next : Int32) (m_wrong : Int32) (m_number : Int32) (m_text : Int32) (m_made : Int32) (m_deep : Int32) (m_lines : Int32) (a_open : Nat) (m_opened : Int32) (a_stack : Nat) (m_top : Int32) (a_word : Nat) (a_told : Nat) (m_force : Int32) (m_x : Int32) (m_planned : Int32) (m_isPlanned : Int32) (m_sounds : Int32) (m_spoken : Int32) (a_wasTold : Nat) (m_undone : Int32) (a_kept : Nat) (a_row : Nat) (a_bestRowSoFar : Nat) (m_bestSits : Int32) (m_bestKnown : Int32) (m_bestOut : Int32) (a_hasBy : Nat) (a_isFit : Nat) (a_knowThen : Nat) (m_drawX : Int64) (a_images : Nat) (a_imageForce : Nat) (a_imageX : Nat) (a_isMade : Nat) (ka_told : ClassId) (ga_told : Nat → Int32) (ka_wasTold : ClassId) (ga_wasTold : Nat → Int32) (t0 : Int32) (t1 : Int32) (t2 : Int32) (t3 : Int32) (b_m_undone : bt 0 20 m_undone) (fb_ga_told : TD t0 t1 t2 t3 ga_told) (fb_ga_wasTold : WT ga_wasTold) : Met l yX12_keepsAct (.code yX12_keepsAct cX12_keepsAct 2 none :: wsA) ({ frames := 0, cells := 0, slots := 0, locals := 0 }) (va_Pc [.ref h0] (fun U => U.heap.size = sz ∧ va_P (dC, dI) classes [(h0, .inr (12, [.ref a_tape, .int m_taped, .int m_rules, .ref a_sign, .ref a_length, .ref a_clause, .ref a_clauses, .ref a_read, .int m_next, .int m_wrong, .int m_number, .int m_text, .int m_made, .int m_deep, .int m_lines, .ref a_open, .int m_opened, .ref a_stack, .int m_top, .ref a_word, .ref a_told, .int m_force, .int m_x, .int m_planned, .int m_isPlanned, .int m_sounds, .int m_spoken, .ref a_wasTold, .int m_undone, .ref a_kept, .ref a_row, .ref a_bestRowSoFar, .int m_bestSits, .int m_bestKnown, .int m_bestOut, .ref a_hasBy, .ref a_isFit, .ref a_knowThen, .long m_drawX, .ref a_images, .ref a_imageForce, .ref a_imageX, .ref a_isMade])), (a_told, .inl (ka_told, 100, .inl ga_told)), (a_wasTold, .inl (ka_wasTold, 400, .inl ga_wasTold))] U.heap ∧ va_K (dC, dI) classes [(ka_told, .int), (ka_wasTold, .int)] U ∧ va_D (fun _ => True) [(h0, .inr (12, [.ref a_tape, .int m_taped, .int m_rules, .ref a_sign, .ref a_length, .ref a_clause, .ref a_clauses, .ref a_read, .int m_next, .int m_wrong, .int m_number, .int m_text, .int m_made, .int m_deep, .int m_lines, .ref a_open, .int m_opened, .ref a_stack, .int m_top, .ref a_word, .ref a_told, .int m_force, .int m_x, .int m_planned, .int m_isPlanned, .int m_sounds, .int m_spoken, .ref a_wasTold, .int m_undone, .ref a_kept, .ref a_row, .ref a_bestRowSoFar, .int m_bestSits, .int m_bestKnown, .int m_bestOut, .ref a_hasBy, .ref a_isFit, .ref a_knowThen, .long m_drawX, .ref a_images, .ref a_imageForce, .ref a_imageX, .ref a_isMade])), (a_told, .inl (ka_told, 100, .inl ga_told)), (a_wasTold, .inl (ka_wasTold, 400, .inl ga_wasTold))] ∧ xE U)) (va_Qv (fun (_ : Unit) => True) (fun _ t => ∃ (f_289 : Nat → Int32) (yy_288 : Nat → Int32), bt 1 20 (yy_288 0) ∧ WT f_289 ∧ va_P (dC, dI) classes [(h0, .inr (12, [.ref a_tape, .int m_taped, .int m_rules, .ref a_sign, .ref a_length, .ref a_clause, .ref a_clauses, .ref a_read, .int m_next, .int m_wrong, .int m_number, .int m_text, .int m_made, .int m_deep, .int m_lines, .ref a_open, .int m_opened, .ref a_stack, .int m_top, .ref a_word, .ref a_told, .int m_force, .int m_x, .int m_planned, .int m_isPlanned, .int m_sounds, .int m_spoken, .ref a_wasTold, .int (yy_288 0), .ref a_kept, .ref a_row, .ref a_bestRowSoFar, .int m_bestSits, .int m_bestKnown, .int m_bestOut, .ref a_hasBy, .ref a_isFit, .ref a_knowThen, .long m_drawX, .ref a_images, .ref a_imageForce, .ref a_imageX, .ref a_isMade])), (a_told, .inl (ka_told, 100, .inl ga_told)), (a_wasTold, .inl (ka_wasTold, 400, .inl f_289))] t.heap ∧ va_K (dC, dI) classes [(ka_told, .int), (ka_wasTold, .int)] t ∧ va_D (va_A [(h0, .inr (12, [.ref a_tape, .int m_taped, .int m_rules, .ref a_sign, .ref a_length, .ref a_clause, .ref a_clauses, .ref a_read, .int m_next, .int m_wrong, .int m_number, .int m_text, .int m_made, .int m_deep, .int m_lines, .ref a_open, .int m_opened, .ref a_stack, .int m_top, .ref a_word, .ref a_told, .int m_force, .int m_x, .int m_planned, .int m_isPlanned, .int m_sounds, .int m_spoken, .ref a_wasTold, .int m_undone, .ref a_kept, .ref a_row, .ref a_bestRowSoFar, .int m_bestSits, .int m_bestKnown, .int m_bestOut, .ref a_hasBy, .ref a_isFit, .ref a_knowThen, .long m_drawX, .ref a_images, .ref a_imageForce, .ref a_imageX, .ref a_isMade])), (a_told, .inl (ka_told, 100, .inl ga_told)), (a_wasTold, .inl (ka_wasTold, 400, .inl ga_wasTold))] sz) [(h0, .inr (12, [.ref a_tape, .int m_taped, .int m_rules, .ref a_sign, .ref a_length, .ref a_clause, .ref a_clauses, .ref a_read, .int m_next, .int m_wrong, .int m_number, .int m_text, .int m_made, .int m_deep, .int m_lines, .ref a_open, .int m_opened, .ref a_stack, .int m_top, .ref a_word, .ref a_told, .int m_force, .int m_x, .int m_planned, .int m_isPlanned, .int m_sounds, .int m_spoken, .ref a_wasTold, .int (yy_288 0), .ref a_kept, .ref a_row, .ref a_bestRowSoFar, .int m_bestSits, .int m_bestKnown, .int m_bestOut, .ref a_hasBy, .ref a_isFit, .ref a_knowThen, .long m_drawX, .ref a_images, .ref a_imageForce, .ref a_imageX, .ref a_isMade])), (a_told, .inl (ka_told, 100, .inl ga_told)), (a_wasTold, .inl (ka_wasTold, 400, .inl f_289))]) (va_A [(h0, .inr (12, [.ref a_tape, .int m_taped, .int m_rules, .ref a_sign, .ref a_length, .ref a_clause, .ref a_clauses, .ref a_read, .int m_next, .int m_wrong, .int m_number, .int m_text, .int m_made, .int m_deep, .int m_lines, .ref a_open, .int m_opened, .ref a_stack, .int m_top, .ref a_word, .ref a_told, .int m_force, .int m_x, .int m_planned, .int m_isPlanned, .int m_sounds, .int m_spoken, .ref a_wasTold, .int m_undone, .ref a_kept, .ref a_row, .ref a_bestRowSoFar, .int m_bestSits, .int m_bestKnown, .int m_bestOut, .ref a_hasBy, .ref a_isFit, .ref a_knowThen, .long m_drawX, .ref a_images, .ref a_imageForce, .ref a_imageX, .ref a_isMade])), (a_told, .inl (ka_told, 100, .inl ga_told)), (a_wasTold, .inl (ka_wasTold, 400, .inl ga_wasTold))] sz)) 0 0 (va_A [(h0, .inr (12, [.ref a_tape, .int m_taped, .int m_rules, .ref a_sign, .ref a_length, .ref a_clause, .ref a_clauses, .ref a_read, .int m_next, .int m_wrong, .int m_number, .int m_text, .int m_made, .int m_deep, .int m_lines, .ref a_open, .int m_opened, .ref a_stack, .int m_top, .ref a_word, .ref a_told, .int m_force, .int m_x, .int m_planned, .int m_isPlanned, .int m_sounds, .int m_spoken, .ref a_wasTold, .int m_undone, .ref a_kept, .ref a_row, .ref a_bestRowSoFar, .int m_bestSits, .int m_bestKnown, .int m_bestOut, .ref a_hasBy, .ref a_isFit, .ref a_knowThen, .long m_drawX, .ref a_images, .ref a_imageForce, .ref a_imageX, .ref a_isMade])), (a_told, .inl (ka_told, 100, .inl ga_told)), (a_wasTold, .inl (ka_wasTold, 400, .inl ga_wasTold))] sz) := by
  refine Met.ofW (cc := cX12_keepsAct) (maxL := 2) (ret := none) (by decide) rfl ?_
  intro p e s m args below meth c s₁ B hml hv
  obtain ⟨rfl, hsz, hP, hK, hD0, hE⟩ := hv
  have hx := B.exec
  have hb := B.bytes
  have hr := B.returns
  have hts := atoms_spec (ws := .code yX12_keepsAct cX12_keepsAct 2 none :: wsA) B.pre
  have hq : ∀ w ∈ wsA, w.before _ s = true := fun w h => hts w (List.mem_cons_of_mem _ h)
  have hown : s.vm.findClass RX12 = some m.cls := findClass_of_methodNamed B.named
  have hlocks := B.notSynchronized
  subst hsz
  have hD := hD0.self (sz := s.heap.size)
  generalize hAe : va_A [(h0, .inr (12, [.ref a_tape, .int m_taped, .int m_rules, .ref a_sign, .ref a_length, .ref a_clause, .ref a_clauses, .ref a_read, .int m_next, .int m_wrong, .int m_number, .int m_text, .int m_made, .int m_deep, .int m_lines, .ref a_open, .int m_opened, .ref a_stack, .int m_top, .ref a_word, .ref a_told, .int m_force, .int m_x, .int m_planned, .int m_isPlanned, .int m_sounds, .int m_spoken, .ref a_wasTold, .int m_undone, .ref a_kept, .ref a_row, .ref a_bestRowSoFar, .int m_bestSits, .int m_bestKnown, .int m_bestOut, .ref a_hasBy, .ref a_isFit, .ref a_knowThen, .long m_drawX, .ref a_images, .ref a_imageForce, .ref a_imageX, .ref a_isMade])), (a_told, .inl (ka_told, 100, .inl ga_told)), (a_wasTold, .inl (ka_wasTold, 400, .inl ga_wasTold))] s.heap.size = A at hD ⊢
  have hA : ∀ q : Nat, s.heap.size ≤ q → A q := fun q h => by rw [← hAe]; exact Or.inr h
  have hS : va_S A s.heap s.heap [] := va_S.rf
  have hl := lv_entry ([.ref h0]) (n := 2) (Nat.le_of_ble_eq_true rfl)
  rw [lg_entry_eq]
  generalize (lg_sl ([.ref h0]) ++ List.replicate (2 - (lg_sl ([.ref h0])).length) Slot.unset).toArray = ls at hl ⊢
  have hl : lv_has ls 2 [(0, .ref h0)] := hl
  refine lv_aload_n hx hb dX12_keepsAct_0 rfl (lv_at hl 0 rfl) ?_
  refine va_get (D := (dC, dI)) (ci := 12) (v := .int m_undone) (C := RX12) (T := TX12) (N := 43) hx hb hq inX12 hown hK hP 0 rfl rfl 28 (by decide) (hq _ qw_1188) (fun _ h9 => h9) rfl dX12_keepsAct_1 ?_
  refine lv_bipush (v := 20) hx hb dX12_keepsAct_4 (by decide) ?_
  refine W.cut (I := fun H locs g => ∃ (f_419 : Nat → Int32) (yy_418 : Nat → Int32) (ls : Array Slot), bt 0 19 (yy_418 0) ∧ WT f_419 ∧ va_P (dC, dI) classes [(h0, .inr (12, [.ref a_tape, .int m_taped, .int m_rules, .ref a_sign, .ref a_length, .ref a_clause, .ref a_clauses, .ref a_read, .int m_next, .int m_wrong, .int m_number, .int m_text, .int m_made, .int m_deep, .int m_lines, .ref a_open, .int m_opened, .ref a_stack, .int m_top, .ref a_word, .ref a_told, .int m_force, .int m_x, .int m_planned, .int m_isPlanned, .int m_sounds, .int m_spoken, .ref a_wasTold, .int (yy_418 0), .ref a_kept, .ref a_row, .ref a_bestRowSoFar, .int m_bestSits, .int m_bestKnown, .int m_bestOut, .ref a_hasBy, .ref a_isFit, .ref a_knowThen, .long m_drawX, .ref a_images, .ref a_imageForce, .ref a_imageX, .ref a_isMade])), (a_told, .inl (ka_told, 100, .inl ga_told)), (a_wasTold, .inl (ka_wasTold, 400, .inl f_419))] H ∧ va_D A [(h0, .inr (12, [.ref a_tape, .int m_taped, .int m_rules, .ref a_sign, .ref a_length, .ref a_clause, .ref a_clauses, .ref a_read, .int m_next, .int m_wrong, .int m_number, .int m_text, .int m_made, .int m_deep, .int m_lines, .ref a_open, .int m_opened, .ref a_stack, .int m_top, .ref a_word, .ref a_told, .int m_force, .int m_x, .int m_planned, .int m_isPlanned, .int m_sounds, .int m_spoken, .ref a_wasTold, .int (yy_418 0), .ref a_kept, .ref a_row, .ref a_bestRowSoFar, .int m_bestSits, .int m_bestKnown, .int m_bestOut, .ref a_hasBy, .ref a_isFit, .ref a_knowThen, .long m_drawX, .ref a_images, .ref a_imageForce, .ref a_imageX, .ref a_isMade])), (a_told, .inl (ka_told, 100, .inl ga_told)), (a_wasTold, .inl (ka_wasTold, 400, .inl f_419))] ∧ va_S A s.heap H locs ∧ lv_has ls 2 [(0, .ref h0)] ∧ g = F0 m 50 ls []) (fun H locs g h => ?_) (fun hJ50 => ?_)
  · obtain ⟨f_419, yy_418, ls, bd_f_h0_28, fd_a_a_wasTold, hP, hD, hS, hl, rfl⟩ := h
    refine lv_iconst (v := 0) hx hb dX12_keepsAct_50 (by decide) ?_
    refine lv_istore_n (lv' := [(1, .int 0), (0, .ref h0)]) hx hb dX12_keepsAct_51 rfl hl (by decide) rfl (fun ls hl => ?_)
    refine W.loop (I := fun n H locs g => ∃ (y_577 : Int32) (f_588 : Nat → Int32) (ls : Array Slot), bt 0 20 y_577 ∧ WT f_588 ∧ 20 - y_577.toInt < (n : Int) ∧ va_P (dC, dI) classes [(h0, .inr (12, [.ref a_tape, .int m_taped, .int m_rules, .ref a_sign, .ref a_length, .ref a_clause, .ref a_clauses, .ref a_read, .int m_next, .int m_wrong, .int m_number, .int m_text, .int m_made, .int m_deep, .int m_lines, .ref a_open, .int m_opened, .ref a_stack, .int m_top, .ref a_word, .ref a_told, .int m_force, .int m_x, .int m_planned, .int m_isPlanned, .int m_sounds, .int m_spoken, .ref a_wasTold, .int (yy_418 0), .ref a_kept, .ref a_row, .ref a_bestRowSoFar, .int m_bestSits, .int m_bestKnown, .int m_bestOut, .ref a_hasBy, .ref a_isFit, .ref a_knowThen, .long m_drawX, .ref a_images, .ref a_imageForce, .ref a_imageX, .ref a_isMade])), (a_told, .inl (ka_told, 100, .inl ga_told)), (a_wasTold, .inl (ka_wasTold, 400, .inl f_588))] H ∧ va_D A [(h0, .inr (12, [.ref a_tape, .int m_taped, .int m_rules, .ref a_sign, .ref a_length, .ref a_clause, .ref a_clauses, .ref a_read, .int m_next, .int m_wrong, .int m_number, .int m_text, .int m_made, .int m_deep, .int m_lines, .ref a_open, .int m_opened, .ref a_stack, .int m_top, .ref a_word, .ref a_told, .int m_force, .int m_x, .int m_planned, .int m_isPlanned, .int m_sounds, .int m_spoken, .ref a_wasTold, .int (yy_418 0), .ref a_kept, .ref a_row, .ref a_bestRowSoFar, .int m_bestSits, .int m_bestKnown, .int m_bestOut, .ref a_hasBy, .ref a_isFit, .ref a_knowThen, .long m_drawX, .ref a_images, .ref a_imageForce, .ref a_imageX, .ref a_isMade])), (a_told, .inl (ka_told, 100, .inl ga_told)), (a_wasTold, .inl (ka_wasTold, 400, .inl f_588))] ∧ va_S A s.heap H locs ∧ lv_has ls 2 [(1, .int y_577), (0, .ref h0)] ∧ g = F0 m 52 ls []) (fun H locs g h => ?_) (fun n ih52 H locs g h => ?_) (n := 21) ⟨0, f_419, _, (bt_w (lo := 0) (hi := 20) (bt_k (x := 0) (c := 0) (by decide)) (by decide)), fd_a_a_wasTold, (ms_0 (bt_k (x := 0) (c := 0) (by decide)) (by decide)), hP, hD, hS, hl, rfl⟩
    · obtain ⟨y_577, f_588, ls, bd_v_1, fd_a_a_wasTold, hm, hP, hD, hS, hl, rfl⟩ := h
      exact ms_z bd_v_1 hm
    · obtain ⟨y_577, f_588, ls, bd_v_1, fd_a_a_wasTold, hm52, hP, hD, hS, hl, rfl⟩ := h
      refine lv_iload_n hx hb dX12_keepsAct_52 rfl (lv_at hl 0 rfl) ?_
      refine lv_bipush (v := 20) hx hb dX12_keepsAct_53 (by decide) ?_
      refine lv_icmp_ge (tgt := 87) hx hb dX12_keepsAct_55 (by decide) (fun c_722 => ?_) (fun c_722 => ?_)
      · refine lv_aload_n hx hb dX12_keepsAct_87 rfl (lv_at hl 1 rfl) ?_
        refine lv_dup hx hb dX12_keepsAct_88 rfl ?_
        refine va_get (D := (dC, dI)) (ci := 12) (v := .int (yy_418 0)) (C := RX12) (T := TX12) (N := 43) hx hb hq inX12 hown hK hP 0 rfl rfl 28 (by decide) (hq _ qw_1188) (fun _ h9 => h9) rfl dX12_keepsAct_89 ?_
        refine lv_iconst (v := 1) hx hb dX12_keepsAct_92 (by decide) ?_
        refine lv_iadd hx hb dX12_keepsAct_93 ?_
        refine lv_topi (fun y_723 ey_723 => ?_)
        refine va_put (D := (dC, dI)) (ci := 12) (v := .int y_723) (ty := .int) (C := RX12) (T := TX12) (N := 43) hx hb hq inX12 tyX12 tyX12_ok nmX12 hown hK hP hD hS 0 rfl rfl 28 (by decide) (hq _ qw_1188) (fun _ h9 => h9) rfl (by decide +kernel) rfl rfl (Nat.le_of_ble_eq_true rfl) dX12_keepsAct_94 (fun H locs hP hD hS => ?_)
        have hP : va_P (dC, dI) classes [(h0, .inr (12, [.ref a_tape, .int m_taped, .int m_rules, .ref a_sign, .ref a_length, .ref a_clause, .ref a_clauses, .ref a_read, .int m_next, .int m_wrong, .int m_number, .int m_text, .int m_made, .int m_deep, .int m_lines, .ref a_open, .int m_opened, .ref a_stack, .int m_top, .ref a_word, .ref a_told, .int m_force, .int m_x, .int m_planned, .int m_isPlanned, .int m_sounds, .int m_spoken, .ref a_wasTold, .int y_723, .ref a_kept, .ref a_row, .ref a_bestRowSoFar, .int m_bestSits, .int m_bestKnown, .int m_bestOut, .ref a_hasBy, .ref a_isFit, .ref a_knowThen, .long m_drawX, .ref a_images, .ref a_imageForce, .ref a_imageX, .ref a_isMade])), (a_told, .inl (ka_told, 100, .inl ga_told)), (a_wasTold, .inl (ka_wasTold, 400, .inl f_588))] H := hP
        have hD : va_D A [(h0, .inr (12, [.ref a_tape, .int m_taped, .int m_rules, .ref a_sign, .ref a_length, .ref a_clause, .ref a_clauses, .ref a_read, .int m_next, .int m_wrong, .int m_number, .int m_text, .int m_made, .int m_deep, .int m_lines, .ref a_open, .int m_opened, .ref a_stack, .int m_top, .ref a_word, .ref a_told, .int m_force, .int m_x, .int m_planned, .int m_isPlanned, .int m_sounds, .int m_spoken, .ref a_wasTold, .int y_723, .ref a_kept, .ref a_row, .ref a_bestRowSoFar, .int m_bestSits, .int m_bestKnown, .int m_bestOut, .ref a_hasBy, .ref a_isFit, .ref a_knowThen, .long m_drawX, .ref a_images, .ref a_imageForce, .ref a_imageX, .ref a_isMade])), (a_told, .inl (ka_told, 100, .inl ga_told)), (a_wasTold, .inl (ka_wasTold, 400, .inl f_588))] := hD
        have b_724 : bt 1 20 y_723 := bt_add ey_723 bd_f_h0_28 (bt_k (x := 1) (c := 1) (by decide)) (by decide)
        refine W.widen (k := 0) (n := 0) (Nat.le_of_ble_eq_true rfl) (Nat.le_of_ble_eq_true rfl) ?_
        exact W.vret hx hb hr (fun t ht hW => ⟨⟨(), rfl, trivial, f_588, (fun i => [y_723].getD i 0), b_724, fd_a_a_wasTold, by rw [ht]; exact hP, va_K.moved hW.alike hK, hD⟩, hS.F ht⟩) hS.2.2 dX12_keepsAct_97
      · refine lv_aload_n hx hb dX12_keepsAct_58 rfl (lv_at hl 1 rfl) ?_
        refine va_get (D := (dC, dI)) (ci := 12) (v := .ref a_wasTold) (C := RX12) (T := TX12) (N := 43) hx hb hq inX12 hown hK hP 0 rfl rfl 27 (by decide) (hq _ qw_1187) (fun _ h9 => h9) rfl dX12_keepsAct_59 ?_
        refine lv_bipush (v := 20) hx hb dX12_keepsAct_62 (by decide) ?_
        refine lv_aload_n hx hb dX12_keepsAct_64 rfl (lv_at hl 1 rfl) ?_
        refine va_get (D := (dC, dI)) (ci := 12) (v := .int (yy_418 0)) (C := RX12) (T := TX12) (N := 43) hx hb hq inX12 hown hK hP 0 rfl rfl 28 (by decide) (hq _ qw_1188) (fun _ h9 => h9) rfl dX12_keepsAct_65 ?_
        refine lv_imul hx hb dX12_keepsAct_68 ?_
        refine lv_topi (fun y_725 ey_725 => ?_)
        refine lv_iload_n hx hb dX12_keepsAct_69 rfl (lv_at hl 0 rfl) ?_
        refine lv_iadd hx hb dX12_keepsAct_70 ?_
        refine lv_topi (fun y_726 ey_726 => ?_)
        refine lv_aload_n hx hb dX12_keepsAct_71 rfl (lv_at hl 1 rfl) ?_
        refine va_get (D := (dC, dI)) (ci := 12) (v := .ref a_told) (C := RX12) (T := TX12) (N := 43) hx hb hq inX12 hown hK hP 0 rfl rfl 20 (by decide) (hq _ qw_1180) (fun _ h9 => h9) rfl dX12_keepsAct_72 ?_
        refine lv_bipush (v := 10) hx hb dX12_keepsAct_75 (by decide) ?_
        refine lv_iload_n hx hb dX12_keepsAct_77 rfl (lv_at hl 0 rfl) ?_
        refine lv_iadd hx hb dX12_keepsAct_78 ?_
        refine lv_topi (fun y_727 ey_727 => ?_)
        have b_728 : bt 0 19 y_577 := rf_lt_l bd_v_1 (bt_k (x := 20) (c := 20) (by decide)) (Int32.not_le.mp c_722) (by decide)
        have b_729 : bt 10 29 y_727 := bt_add ey_727 (bt_k (x := 10) (c := 10) (by decide)) b_728 (by decide)
        refine va_iald hx hb hK hP 1 0 rfl rfl (bt_in b_729 (by decide)) dX12_keepsAct_79 ?_
        refine lv_topi (fun y_730 ey_730 => ?_)
        have b_731 : bt 0 380 y_725 := bt_mul ey_725 (bt_k (x := 20) (c := 20) (by decide)) bd_f_h0_28 (by decide)
        have b_732 : bt 0 399 y_726 := bt_add ey_726 b_731 b_728 (by decide)
        refine va_iast hx hb hK hP hD hS 2 1 rfl rfl (bt_in b_732 (by decide)) dX12_keepsAct_80 (fun H locs hP hD hS => ?_)
        obtain ⟨f_733, ef_733⟩ : ∃ f, f = upd f_588 (Int32.toNatClampNeg y_726) y_730 := ⟨_, rfl⟩
        rw [← ef_733] at hP hD
        have hP : va_P (dC, dI) classes [(h0, .inr (12, [.ref a_tape, .int m_taped, .int m_rules, .ref a_sign, .ref a_length, .ref a_clause, .ref a_clauses, .ref a_read, .int m_next, .int m_wrong, .int m_number, .int m_text, .int m_made, .int m_deep, .int m_lines, .ref a_open, .int m_opened, .ref a_stack, .int m_top, .ref a_word, .ref a_told, .int m_force, .int m_x, .int m_planned, .int m_isPlanned, .int m_sounds, .int m_spoken, .ref a_wasTold, .int (yy_418 0), .ref a_kept, .ref a_row, .ref a_bestRowSoFar, .int m_bestSits, .int m_bestKnown, .int m_bestOut, .ref a_hasBy, .ref a_isFit, .ref a_knowThen, .long m_drawX, .ref a_images, .ref a_imageForce, .ref a_imageX, .ref a_isMade])), (a_told, .inl (ka_told, 100, .inl ga_told)), (a_wasTold, .inl (ka_wasTold, 400, .inl f_733))] H := hP
        have hD : va_D A [(h0, .inr (12, [.ref a_tape, .int m_taped, .int m_rules, .ref a_sign, .ref a_length, .ref a_clause, .ref a_clauses, .ref a_read, .int m_next, .int m_wrong, .int m_number, .int m_text, .int m_made, .int m_deep, .int m_lines, .ref a_open, .int m_opened, .ref a_stack, .int m_top, .ref a_word, .ref a_told, .int m_force, .int m_x, .int m_planned, .int m_isPlanned, .int m_sounds, .int m_spoken, .ref a_wasTold, .int (yy_418 0), .ref a_kept, .ref a_row, .ref a_bestRowSoFar, .int m_bestSits, .int m_bestKnown, .int m_bestOut, .ref a_hasBy, .ref a_isFit, .ref a_knowThen, .long m_drawX, .ref a_images, .ref a_imageForce, .ref a_imageX, .ref a_isMade])), (a_told, .inl (ka_told, 100, .inl ga_told)), (a_wasTold, .inl (ka_wasTold, 400, .inl f_733))] := hD
        obtain ⟨y_734, ey_734⟩ : ∃ y : Int32, y = y_577 + 1 := ⟨_, rfl⟩
        refine lv_iinc (v := y_734) (lv' := [(1, .int y_734), (0, .ref h0)]) hx hb dX12_keepsAct_81 hl (k := 0) rfl (by rw [ey_734]; rfl) (by decide) rfl (fun ls hl => ?_)
        refine lv_goto (tgt := 52) hx hb dX12_keepsAct_84 (by decide) ?_
        have b_735 : bt 1 20 y_734 := bt_add ey_734 b_728 (bt_k (x := 1) (c := 1) (by decide)) (by decide)
        have d_736 : WT f_733 := wt_cp fd_a_a_wasTold ef_733 ey_725 ey_726 bd_f_h0_28 b_728 fb_ga_told ey_730 ey_727
        exact ih52 _ _ _ ⟨y_734, f_733, _, (bt_w (lo := 0) (hi := 20) b_735 (by decide)), d_736, (ms_s ey_734 b_728 hm52 (by decide)), hP, hD, hS, hl, rfl⟩
  refine lv_icmp_ne (tgt := 50) hx hb dX12_keepsAct_6 (by decide) (fun c_737 => ?_) (fun c_737 => ?_)
  · have b_738 : bt 0 19 m_undone := rf_ne_hi b_m_undone c_737 (by decide) (by decide)
    exact hJ50 _ _ _ ⟨ga_wasTold, (fun i => [m_undone].getD i 0), _, b_738, fb_ga_wasTold, hP, hD, hS, hl, rfl⟩
  · refine lv_bipush (v := 20) hx hb dX12_keepsAct_9 (by decide) ?_
    refine lv_istore_n (lv' := [(1, .int 20), (0, .ref h0)]) hx hb dX12_keepsAct_11 rfl hl (by decide) rfl (fun ls hl => ?_)
    refine W.loop (I := fun n H locs g => ∃ (y_739 : Int32) (f_746 : Nat → Int32) (ls : Array Slot), bt 20 400 y_739 ∧ WT f_746 ∧ 400 - y_739.toInt < (n : Int) ∧ va_P (dC, dI) classes [(h0, .inr (12, [.ref a_tape, .int m_taped, .int m_rules, .ref a_sign, .ref a_length, .ref a_clause, .ref a_clauses, .ref a_read, .int m_next, .int m_wrong, .int m_number, .int m_text, .int m_made, .int m_deep, .int m_lines, .ref a_open, .int m_opened, .ref a_stack, .int m_top, .ref a_word, .ref a_told, .int m_force, .int m_x, .int m_planned, .int m_isPlanned, .int m_sounds, .int m_spoken, .ref a_wasTold, .int m_undone, .ref a_kept, .ref a_row, .ref a_bestRowSoFar, .int m_bestSits, .int m_bestKnown, .int m_bestOut, .ref a_hasBy, .ref a_isFit, .ref a_knowThen, .long m_drawX, .ref a_images, .ref a_imageForce, .ref a_imageX, .ref a_isMade])), (a_told, .inl (ka_told, 100, .inl ga_told)), (a_wasTold, .inl (ka_wasTold, 400, .inl f_746))] H ∧ va_D A [(h0, .inr (12, [.ref a_tape, .int m_taped, .int m_rules, .ref a_sign, .ref a_length, .ref a_clause, .ref a_clauses, .ref a_read, .int m_next, .int m_wrong, .int m_number, .int m_text, .int m_made, .int m_deep, .int m_lines, .ref a_open, .int m_opened, .ref a_stack, .int m_top, .ref a_word, .ref a_told, .int m_force, .int m_x, .int m_planned, .int m_isPlanned, .int m_sounds, .int m_spoken, .ref a_wasTold, .int m_undone, .ref a_kept, .ref a_row, .ref a_bestRowSoFar, .int m_bestSits, .int m_bestKnown, .int m_bestOut, .ref a_hasBy, .ref a_isFit, .ref a_knowThen, .long m_drawX, .ref a_images, .ref a_imageForce, .ref a_imageX, .ref a_isMade])), (a_told, .inl (ka_told, 100, .inl ga_told)), (a_wasTold, .inl (ka_wasTold, 400, .inl f_746))] ∧ va_S A s.heap H locs ∧ lv_has ls 2 [(1, .int y_739), (0, .ref h0)] ∧ g = F0 m 12 ls []) (fun H locs g h => ?_) (fun n ih12 H locs g h => ?_) (n := 381) ⟨20, ga_wasTold, _, (bt_w (lo := 20) (hi := 400) (bt_k (x := 20) (c := 20) (by decide)) (by decide)), fb_ga_wasTold, (ms_0 (bt_k (x := 20) (c := 20) (by decide)) (by decide)), hP, hD, hS, hl, rfl⟩
    · obtain ⟨y_739, f_746, ls, bd_v_1, fd_a_a_wasTold, hm, hP, hD, hS, hl, rfl⟩ := h
      exact ms_z bd_v_1 hm
    · obtain ⟨y_739, f_746, ls, bd_v_1, fd_a_a_wasTold, hm12, hP, hD, hS, hl, rfl⟩ := h
      refine lv_iload_n hx hb dX12_keepsAct_12 rfl (lv_at hl 0 rfl) ?_
      refine lv_sipush (v := 400) hx hb dX12_keepsAct_13 (by decide) ?_
      refine lv_icmp_ge (tgt := 40) hx hb dX12_keepsAct_16 (by decide) (fun c_858 => ?_) (fun c_858 => ?_)
      · refine lv_aload_n hx hb dX12_keepsAct_40 rfl (lv_at hl 1 rfl) ?_
        refine lv_dup hx hb dX12_keepsAct_41 rfl ?_
        refine va_get (D := (dC, dI)) (ci := 12) (v := .int m_undone) (C := RX12) (T := TX12) (N := 43) hx hb hq inX12 hown hK hP 0 rfl rfl 28 (by decide) (hq _ qw_1188) (fun _ h9 => h9) rfl dX12_keepsAct_42 ?_
        refine lv_iconst (v := 1) hx hb dX12_keepsAct_45 (by decide) ?_
        refine lv_isub hx hb dX12_keepsAct_46 ?_
        refine lv_topi (fun y_859 ey_859 => ?_)
        refine va_put (D := (dC, dI)) (ci := 12) (v := .int y_859) (ty := .int) (C := RX12) (T := TX12) (N := 43) hx hb hq inX12 tyX12 tyX12_ok nmX12 hown hK hP hD hS 0 rfl rfl 28 (by decide) (hq _ qw_1188) (fun _ h9 => h9) rfl (by decide +kernel) rfl rfl (Nat.le_of_ble_eq_true rfl) dX12_keepsAct_47 (fun H locs hP hD hS => ?_)
        have hP : va_P (dC, dI) classes [(h0, .inr (12, [.ref a_tape, .int m_taped, .int m_rules, .ref a_sign, .ref a_length, .ref a_clause, .ref a_clauses, .ref a_read, .int m_next, .int m_wrong, .int m_number, .int m_text, .int m_made, .int m_deep, .int m_lines, .ref a_open, .int m_opened, .ref a_stack, .int m_top, .ref a_word, .ref a_told, .int m_force, .int m_x, .int m_planned, .int m_isPlanned, .int m_sounds, .int m_spoken, .ref a_wasTold, .int y_859, .ref a_kept, .ref a_row, .ref a_bestRowSoFar, .int m_bestSits, .int m_bestKnown, .int m_bestOut, .ref a_hasBy, .ref a_isFit, .ref a_knowThen, .long m_drawX, .ref a_images, .ref a_imageForce, .ref a_imageX, .ref a_isMade])), (a_told, .inl (ka_told, 100, .inl ga_told)), (a_wasTold, .inl (ka_wasTold, 400, .inl f_746))] H := hP
        have hD : va_D A [(h0, .inr (12, [.ref a_tape, .int m_taped, .int m_rules, .ref a_sign, .ref a_length, .ref a_clause, .ref a_clauses, .ref a_read, .int m_next, .int m_wrong, .int m_number, .int m_text, .int m_made, .int m_deep, .int m_lines, .ref a_open, .int m_opened, .ref a_stack, .int m_top, .ref a_word, .ref a_told, .int m_force, .int m_x, .int m_planned, .int m_isPlanned, .int m_sounds, .int m_spoken, .ref a_wasTold, .int y_859, .ref a_kept, .ref a_row, .ref a_bestRowSoFar, .int m_bestSits, .int m_bestKnown, .int m_bestOut, .ref a_hasBy, .ref a_isFit, .ref a_knowThen, .long m_drawX, .ref a_images, .ref a_imageForce, .ref a_imageX, .ref a_isMade])), (a_told, .inl (ka_told, 100, .inl ga_told)), (a_wasTold, .inl (ka_wasTold, 400, .inl f_746))] := hD
        have b_860 : bt 20 20 m_undone := rf_eq_l (bt_k (x := 20) (c := 20) (by decide)) c_737
        have b_861 : bt 19 19 y_859 := bt_sub ey_859 b_860 (bt_k (x := 1) (c := 1) (by decide)) (by decide)
        exact hJ50 _ _ _ ⟨f_746, (fun i => [y_859].getD i 0), _, (bt_w (lo := 0) (hi := 19) b_861 (by decide)), fd_a_a_wasTold, hP, hD, hS, (lv_sub hl [1] rfl), rfl⟩
      · refine lv_aload_n hx hb dX12_keepsAct_19 rfl (lv_at hl 1 rfl) ?_
        refine va_get (D := (dC, dI)) (ci := 12) (v := .ref a_wasTold) (C := RX12) (T := TX12) (N := 43) hx hb hq inX12 hown hK hP 0 rfl rfl 27 (by decide) (hq _ qw_1187) (fun _ h9 => h9) rfl dX12_keepsAct_20 ?_
        refine lv_iload_n hx hb dX12_keepsAct_23 rfl (lv_at hl 0 rfl) ?_
        refine lv_bipush (v := 20) hx hb dX12_keepsAct_24 (by decide) ?_
        refine lv_isub hx hb dX12_keepsAct_26 ?_
        refine lv_topi (fun y_862 ey_862 => ?_)
        refine lv_aload_n hx hb dX12_keepsAct_27 rfl (lv_at hl 1 rfl) ?_
        refine va_get (D := (dC, dI)) (ci := 12) (v := .ref a_wasTold) (C := RX12) (T := TX12) (N := 43) hx hb hq inX12 hown hK hP 0 rfl rfl 27 (by decide) (hq _ qw_1187) (fun _ h9 => h9) rfl dX12_keepsAct_28 ?_
        refine lv_iload_n hx hb dX12_keepsAct_31 rfl (lv_at hl 0 rfl) ?_
        have b_863 : bt 20 399 y_739 := rf_lt_l bd_v_1 (bt_k (x := 400) (c := 400) (by decide)) (Int32.not_le.mp c_858) (by decide)
        refine va_iald hx hb hK hP 2 1 rfl rfl (bt_in b_863 (by decide)) dX12_keepsAct_32 ?_
        refine lv_topi (fun y_864 ey_864 => ?_)
        have b_865 : bt 0 379 y_862 := bt_sub ey_862 b_863 (bt_k (x := 20) (c := 20) (by decide)) (by decide)
        refine va_iast hx hb hK hP hD hS 2 1 rfl rfl (bt_in b_865 (by decide)) dX12_keepsAct_33 (fun H locs hP hD hS => ?_)
        obtain ⟨f_866, ef_866⟩ : ∃ f, f = upd f_746 (Int32.toNatClampNeg y_862) y_864 := ⟨_, rfl⟩
        rw [← ef_866] at hP hD
        have hP : va_P (dC, dI) classes [(h0, .inr (12, [.ref a_tape, .int m_taped, .int m_rules, .ref a_sign, .ref a_length, .ref a_clause, .ref a_clauses, .ref a_read, .int m_next, .int m_wrong, .int m_number, .int m_text, .int m_made, .int m_deep, .int m_lines, .ref a_open, .int m_opened, .ref a_stack, .int m_top, .ref a_word, .ref a_told, .int m_force, .int m_x, .int m_planned, .int m_isPlanned, .int m_sounds, .int m_spoken, .ref a_wasTold, .int m_undone, .ref a_kept, .ref a_row, .ref a_bestRowSoFar, .int m_bestSits, .int m_bestKnown, .int m_bestOut, .ref a_hasBy, .ref a_isFit, .ref a_knowThen, .long m_drawX, .ref a_images, .ref a_imageForce, .ref a_imageX, .ref a_isMade])), (a_told, .inl (ka_told, 100, .inl ga_told)), (a_wasTold, .inl (ka_wasTold, 400, .inl f_866))] H := hP
        have hD : va_D A [(h0, .inr (12, [.ref a_tape, .int m_taped, .int m_rules, .ref a_sign, .ref a_length, .ref a_clause, .ref a_clauses, .ref a_read, .int m_next, .int m_wrong, .int m_number, .int m_text, .int m_made, .int m_deep, .int m_lines, .ref a_open, .int m_opened, .ref a_stack, .int m_top, .ref a_word, .ref a_told, .int m_force, .int m_x, .int m_planned, .int m_isPlanned, .int m_sounds, .int m_spoken, .ref a_wasTold, .int m_undone, .ref a_kept, .ref a_row, .ref a_bestRowSoFar, .int m_bestSits, .int m_bestKnown, .int m_bestOut, .ref a_hasBy, .ref a_isFit, .ref a_knowThen, .long m_drawX, .ref a_images, .ref a_imageForce, .ref a_imageX, .ref a_isMade])), (a_told, .inl (ka_told, 100, .inl ga_told)), (a_wasTold, .inl (ka_wasTold, 400, .inl f_866))] := hD
        obtain ⟨y_867, ey_867⟩ : ∃ y : Int32, y = y_739 + 1 := ⟨_, rfl⟩
        refine lv_iinc (v := y_867) (lv' := [(1, .int y_867), (0, .ref h0)]) hx hb dX12_keepsAct_34 hl (k := 0) rfl (by rw [ey_867]; rfl) (by decide) rfl (fun ls hl => ?_)
        refine lv_goto (tgt := 12) hx hb dX12_keepsAct_37 (by decide) ?_
        have b_868 : bt 21 400 y_867 := bt_add ey_867 b_863 (bt_k (x := 1) (c := 1) (by decide)) (by decide)
        have d_869 : WT f_866 := wt_sh fd_a_a_wasTold ef_866 ey_862 b_863 ey_864
        exact ih12 _ _ _ ⟨y_867, f_866, _, (bt_w (lo := 20) (hi := 400) b_868 (by decide)), d_869, (ms_s ey_867 b_863 hm12 (by decide)), hP, hD, hS, hl, rfl⟩

set_option maxHeartbeats 4000000 in
set_option maxRecDepth 100000 in
/-- m_undo -/
theorem m_undo (l : Launch) (dC : Nat → ClassId) (dI : Nat → Nat → Nat) (sz : Nat) (h0 : Nat) (a_tape : Nat) (m_taped : Int32) (m_rules : Int32) (a_sign : Nat) (a_length : Nat) (a_clause : Nat) (a_clauses : Nat) (a_read : Nat) (m_next : Int32) (m_wrong : Int32) (m_number : Int32) (m_text : Int32) (m_made : Int32) (m_deep : Int32) (m_lines : Int32) (a_open : Nat) (m_opened : Int32) (a_stack : Nat) (m_top : Int32) (a_word : Nat) (a_told : Nat) (m_force : Int32) (m_x : Int32) (m_planned : Int32) (m_isPlanned : Int32) (m_sounds : Int32) (m_spoken : Int32) (a_wasTold : Nat) (m_undone : Int32) (a_kept : Nat) (a_row : Nat) (a_bestRowSoFar : Nat) (m_bestSits : Int32) (m_bestKnown : Int32) (m_bestOut : Int32) (a_hasBy : Nat) (a_isFit : Nat) (a_knowThen : Nat) (m_drawX : Int64) (a_images : Nat) (a_imageForce : Nat) (a_imageX : Nat) (a_isMade : Nat) (ka_told : ClassId) (ga_told : Nat → Int32) (ka_wasTold : ClassId) (ga_wasTold : Nat → Int32) (t0 : Int32) (t1 : Int32) (t2 : Int32) (t3 : Int32) (b_m_undone : bt 0 20 m_undone) (fb_ga_told : TD t0 t1 t2 t3 ga_told) (fb_ga_wasTold : WT ga_wasTold) : Met l yX12_undo (.code yX12_undo cX12_undo 2 (some .int) :: wsA) ({ frames := 0, cells := 0, slots := 0, locals := 0 }) (va_Pc [.ref h0] (fun U => U.heap.size = sz ∧ va_P (dC, dI) classes [(h0, .inr (12, [.ref a_tape, .int m_taped, .int m_rules, .ref a_sign, .ref a_length, .ref a_clause, .ref a_clauses, .ref a_read, .int m_next, .int m_wrong, .int m_number, .int m_text, .int m_made, .int m_deep, .int m_lines, .ref a_open, .int m_opened, .ref a_stack, .int m_top, .ref a_word, .ref a_told, .int m_force, .int m_x, .int m_planned, .int m_isPlanned, .int m_sounds, .int m_spoken, .ref a_wasTold, .int m_undone, .ref a_kept, .ref a_row, .ref a_bestRowSoFar, .int m_bestSits, .int m_bestKnown, .int m_bestOut, .ref a_hasBy, .ref a_isFit, .ref a_knowThen, .long m_drawX, .ref a_images, .ref a_imageForce, .ref a_imageX, .ref a_isMade])), (a_told, .inl (ka_told, 100, .inl ga_told)), (a_wasTold, .inl (ka_wasTold, 400, .inl ga_wasTold))] U.heap ∧ va_K (dC, dI) classes [(ka_told, .int), (ka_wasTold, .int)] U ∧ va_D (fun _ => True) [(h0, .inr (12, [.ref a_tape, .int m_taped, .int m_rules, .ref a_sign, .ref a_length, .ref a_clause, .ref a_clauses, .ref a_read, .int m_next, .int m_wrong, .int m_number, .int m_text, .int m_made, .int m_deep, .int m_lines, .ref a_open, .int m_opened, .ref a_stack, .int m_top, .ref a_word, .ref a_told, .int m_force, .int m_x, .int m_planned, .int m_isPlanned, .int m_sounds, .int m_spoken, .ref a_wasTold, .int m_undone, .ref a_kept, .ref a_row, .ref a_bestRowSoFar, .int m_bestSits, .int m_bestKnown, .int m_bestOut, .ref a_hasBy, .ref a_isFit, .ref a_knowThen, .long m_drawX, .ref a_images, .ref a_imageForce, .ref a_imageX, .ref a_isMade])), (a_told, .inl (ka_told, 100, .inl ga_told)), (a_wasTold, .inl (ka_wasTold, 400, .inl ga_wasTold))] ∧ xE U)) (va_Qi (fun (r : Int32) (_ : Unit) => True) (fun _ t => ∃ (f_190 : Nat → Int32) (yy_189 : Nat → Int32), bt 0 19 (yy_189 0) ∧ TD t0 t1 t2 t3 f_190 ∧ va_P (dC, dI) classes [(h0, .inr (12, [.ref a_tape, .int m_taped, .int m_rules, .ref a_sign, .ref a_length, .ref a_clause, .ref a_clauses, .ref a_read, .int m_next, .int m_wrong, .int m_number, .int m_text, .int m_made, .int m_deep, .int m_lines, .ref a_open, .int m_opened, .ref a_stack, .int m_top, .ref a_word, .ref a_told, .int m_force, .int m_x, .int m_planned, .int m_isPlanned, .int m_sounds, .int m_spoken, .ref a_wasTold, .int (yy_189 0), .ref a_kept, .ref a_row, .ref a_bestRowSoFar, .int m_bestSits, .int m_bestKnown, .int m_bestOut, .ref a_hasBy, .ref a_isFit, .ref a_knowThen, .long m_drawX, .ref a_images, .ref a_imageForce, .ref a_imageX, .ref a_isMade])), (a_told, .inl (ka_told, 100, .inl f_190)), (a_wasTold, .inl (ka_wasTold, 400, .inl ga_wasTold))] t.heap ∧ va_K (dC, dI) classes [(ka_told, .int), (ka_wasTold, .int)] t ∧ va_D (va_A [(h0, .inr (12, [.ref a_tape, .int m_taped, .int m_rules, .ref a_sign, .ref a_length, .ref a_clause, .ref a_clauses, .ref a_read, .int m_next, .int m_wrong, .int m_number, .int m_text, .int m_made, .int m_deep, .int m_lines, .ref a_open, .int m_opened, .ref a_stack, .int m_top, .ref a_word, .ref a_told, .int m_force, .int m_x, .int m_planned, .int m_isPlanned, .int m_sounds, .int m_spoken, .ref a_wasTold, .int m_undone, .ref a_kept, .ref a_row, .ref a_bestRowSoFar, .int m_bestSits, .int m_bestKnown, .int m_bestOut, .ref a_hasBy, .ref a_isFit, .ref a_knowThen, .long m_drawX, .ref a_images, .ref a_imageForce, .ref a_imageX, .ref a_isMade])), (a_told, .inl (ka_told, 100, .inl ga_told)), (a_wasTold, .inl (ka_wasTold, 400, .inl ga_wasTold))] sz) [(h0, .inr (12, [.ref a_tape, .int m_taped, .int m_rules, .ref a_sign, .ref a_length, .ref a_clause, .ref a_clauses, .ref a_read, .int m_next, .int m_wrong, .int m_number, .int m_text, .int m_made, .int m_deep, .int m_lines, .ref a_open, .int m_opened, .ref a_stack, .int m_top, .ref a_word, .ref a_told, .int m_force, .int m_x, .int m_planned, .int m_isPlanned, .int m_sounds, .int m_spoken, .ref a_wasTold, .int (yy_189 0), .ref a_kept, .ref a_row, .ref a_bestRowSoFar, .int m_bestSits, .int m_bestKnown, .int m_bestOut, .ref a_hasBy, .ref a_isFit, .ref a_knowThen, .long m_drawX, .ref a_images, .ref a_imageForce, .ref a_imageX, .ref a_isMade])), (a_told, .inl (ka_told, 100, .inl f_190)), (a_wasTold, .inl (ka_wasTold, 400, .inl ga_wasTold))]) (va_A [(h0, .inr (12, [.ref a_tape, .int m_taped, .int m_rules, .ref a_sign, .ref a_length, .ref a_clause, .ref a_clauses, .ref a_read, .int m_next, .int m_wrong, .int m_number, .int m_text, .int m_made, .int m_deep, .int m_lines, .ref a_open, .int m_opened, .ref a_stack, .int m_top, .ref a_word, .ref a_told, .int m_force, .int m_x, .int m_planned, .int m_isPlanned, .int m_sounds, .int m_spoken, .ref a_wasTold, .int m_undone, .ref a_kept, .ref a_row, .ref a_bestRowSoFar, .int m_bestSits, .int m_bestKnown, .int m_bestOut, .ref a_hasBy, .ref a_isFit, .ref a_knowThen, .long m_drawX, .ref a_images, .ref a_imageForce, .ref a_imageX, .ref a_isMade])), (a_told, .inl (ka_told, 100, .inl ga_told)), (a_wasTold, .inl (ka_wasTold, 400, .inl ga_wasTold))] sz)) 0 0 (va_A [(h0, .inr (12, [.ref a_tape, .int m_taped, .int m_rules, .ref a_sign, .ref a_length, .ref a_clause, .ref a_clauses, .ref a_read, .int m_next, .int m_wrong, .int m_number, .int m_text, .int m_made, .int m_deep, .int m_lines, .ref a_open, .int m_opened, .ref a_stack, .int m_top, .ref a_word, .ref a_told, .int m_force, .int m_x, .int m_planned, .int m_isPlanned, .int m_sounds, .int m_spoken, .ref a_wasTold, .int m_undone, .ref a_kept, .ref a_row, .ref a_bestRowSoFar, .int m_bestSits, .int m_bestKnown, .int m_bestOut, .ref a_hasBy, .ref a_isFit, .ref a_knowThen, .long m_drawX, .ref a_images, .ref a_imageForce, .ref a_imageX, .ref a_isMade])), (a_told, .inl (ka_told, 100, .inl ga_told)), (a_wasTold, .inl (ka_wasTold, 400, .inl ga_wasTold))] sz) := by
  refine Met.ofW (cc := cX12_undo) (maxL := 2) (ret := (some .int)) (by decide) rfl ?_
  intro p e s m args below meth c s₁ B hml hv
  obtain ⟨rfl, hsz, hP, hK, hD0, hE⟩ := hv
  have hx := B.exec
  have hb := B.bytes
  have hr := B.returns
  have hts := atoms_spec (ws := .code yX12_undo cX12_undo 2 (some .int) :: wsA) B.pre
  have hq : ∀ w ∈ wsA, w.before _ s = true := fun w h => hts w (List.mem_cons_of_mem _ h)
  have hown : s.vm.findClass RX12 = some m.cls := findClass_of_methodNamed B.named
  have hlocks := B.notSynchronized
  subst hsz
  have hD := hD0.self (sz := s.heap.size)
  generalize hAe : va_A [(h0, .inr (12, [.ref a_tape, .int m_taped, .int m_rules, .ref a_sign, .ref a_length, .ref a_clause, .ref a_clauses, .ref a_read, .int m_next, .int m_wrong, .int m_number, .int m_text, .int m_made, .int m_deep, .int m_lines, .ref a_open, .int m_opened, .ref a_stack, .int m_top, .ref a_word, .ref a_told, .int m_force, .int m_x, .int m_planned, .int m_isPlanned, .int m_sounds, .int m_spoken, .ref a_wasTold, .int m_undone, .ref a_kept, .ref a_row, .ref a_bestRowSoFar, .int m_bestSits, .int m_bestKnown, .int m_bestOut, .ref a_hasBy, .ref a_isFit, .ref a_knowThen, .long m_drawX, .ref a_images, .ref a_imageForce, .ref a_imageX, .ref a_isMade])), (a_told, .inl (ka_told, 100, .inl ga_told)), (a_wasTold, .inl (ka_wasTold, 400, .inl ga_wasTold))] s.heap.size = A at hD ⊢
  have hA : ∀ q : Nat, s.heap.size ≤ q → A q := fun q h => by rw [← hAe]; exact Or.inr h
  have hS : va_S A s.heap s.heap [] := va_S.rf
  have hl := lv_entry ([.ref h0]) (n := 2) (Nat.le_of_ble_eq_true rfl)
  rw [lg_entry_eq]
  generalize (lg_sl ([.ref h0]) ++ List.replicate (2 - (lg_sl ([.ref h0])).length) Slot.unset).toArray = ls at hl ⊢
  have hl : lv_has ls 2 [(0, .ref h0)] := hl
  refine lv_aload_n hx hb dX12_undo_0 rfl (lv_at hl 0 rfl) ?_
  refine va_get (D := (dC, dI)) (ci := 12) (v := .int m_undone) (C := RX12) (T := TX12) (N := 43) hx hb hq inX12 hown hK hP 0 rfl rfl 28 (by decide) (hq _ qw_1188) (fun _ h9 => h9) rfl dX12_undo_1 ?_
  refine lv_if_ne (tgt := 9) hx hb dX12_undo_4 (by decide) (fun c_191 => ?_) (fun c_191 => ?_)
  · refine lv_aload_n hx hb dX12_undo_9 rfl (lv_at hl 0 rfl) ?_
    refine lv_dup hx hb dX12_undo_10 rfl ?_
    refine va_get (D := (dC, dI)) (ci := 12) (v := .int m_undone) (C := RX12) (T := TX12) (N := 43) hx hb hq inX12 hown hK hP 0 rfl rfl 28 (by decide) (hq _ qw_1188) (fun _ h9 => h9) rfl dX12_undo_11 ?_
    refine lv_iconst (v := 1) hx hb dX12_undo_14 (by decide) ?_
    refine lv_isub hx hb dX12_undo_15 ?_
    refine lv_topi (fun y_192 ey_192 => ?_)
    refine va_put (D := (dC, dI)) (ci := 12) (v := .int y_192) (ty := .int) (C := RX12) (T := TX12) (N := 43) hx hb hq inX12 tyX12 tyX12_ok nmX12 hown hK hP hD hS 0 rfl rfl 28 (by decide) (hq _ qw_1188) (fun _ h9 => h9) rfl (by decide +kernel) rfl rfl (Nat.le_of_ble_eq_true rfl) dX12_undo_16 (fun H locs hP hD hS => ?_)
    have hP : va_P (dC, dI) classes [(h0, .inr (12, [.ref a_tape, .int m_taped, .int m_rules, .ref a_sign, .ref a_length, .ref a_clause, .ref a_clauses, .ref a_read, .int m_next, .int m_wrong, .int m_number, .int m_text, .int m_made, .int m_deep, .int m_lines, .ref a_open, .int m_opened, .ref a_stack, .int m_top, .ref a_word, .ref a_told, .int m_force, .int m_x, .int m_planned, .int m_isPlanned, .int m_sounds, .int m_spoken, .ref a_wasTold, .int y_192, .ref a_kept, .ref a_row, .ref a_bestRowSoFar, .int m_bestSits, .int m_bestKnown, .int m_bestOut, .ref a_hasBy, .ref a_isFit, .ref a_knowThen, .long m_drawX, .ref a_images, .ref a_imageForce, .ref a_imageX, .ref a_isMade])), (a_told, .inl (ka_told, 100, .inl ga_told)), (a_wasTold, .inl (ka_wasTold, 400, .inl ga_wasTold))] H := hP
    have hD : va_D A [(h0, .inr (12, [.ref a_tape, .int m_taped, .int m_rules, .ref a_sign, .ref a_length, .ref a_clause, .ref a_clauses, .ref a_read, .int m_next, .int m_wrong, .int m_number, .int m_text, .int m_made, .int m_deep, .int m_lines, .ref a_open, .int m_opened, .ref a_stack, .int m_top, .ref a_word, .ref a_told, .int m_force, .int m_x, .int m_planned, .int m_isPlanned, .int m_sounds, .int m_spoken, .ref a_wasTold, .int y_192, .ref a_kept, .ref a_row, .ref a_bestRowSoFar, .int m_bestSits, .int m_bestKnown, .int m_bestOut, .ref a_hasBy, .ref a_isFit, .ref a_knowThen, .long m_drawX, .ref a_images, .ref a_imageForce, .ref a_imageX, .ref a_isMade])), (a_told, .inl (ka_told, 100, .inl ga_told)), (a_wasTold, .inl (ka_wasTold, 400, .inl ga_wasTold))] := hD
    refine lv_iconst (v := 0) hx hb dX12_undo_19 (by decide) ?_
    refine lv_istore_n (lv' := [(1, .int 0), (0, .ref h0)]) hx hb dX12_undo_20 rfl hl (by decide) rfl (fun ls hl => ?_)
    refine W.loop (I := fun n H locs g => ∃ (y_193 : Int32) (f_206 : Nat → Int32) (ls : Array Slot), bt 0 20 y_193 ∧ TD t0 t1 t2 t3 f_206 ∧ 20 - y_193.toInt < (n : Int) ∧ va_P (dC, dI) classes [(h0, .inr (12, [.ref a_tape, .int m_taped, .int m_rules, .ref a_sign, .ref a_length, .ref a_clause, .ref a_clauses, .ref a_read, .int m_next, .int m_wrong, .int m_number, .int m_text, .int m_made, .int m_deep, .int m_lines, .ref a_open, .int m_opened, .ref a_stack, .int m_top, .ref a_word, .ref a_told, .int m_force, .int m_x, .int m_planned, .int m_isPlanned, .int m_sounds, .int m_spoken, .ref a_wasTold, .int y_192, .ref a_kept, .ref a_row, .ref a_bestRowSoFar, .int m_bestSits, .int m_bestKnown, .int m_bestOut, .ref a_hasBy, .ref a_isFit, .ref a_knowThen, .long m_drawX, .ref a_images, .ref a_imageForce, .ref a_imageX, .ref a_isMade])), (a_told, .inl (ka_told, 100, .inl f_206)), (a_wasTold, .inl (ka_wasTold, 400, .inl ga_wasTold))] H ∧ va_D A [(h0, .inr (12, [.ref a_tape, .int m_taped, .int m_rules, .ref a_sign, .ref a_length, .ref a_clause, .ref a_clauses, .ref a_read, .int m_next, .int m_wrong, .int m_number, .int m_text, .int m_made, .int m_deep, .int m_lines, .ref a_open, .int m_opened, .ref a_stack, .int m_top, .ref a_word, .ref a_told, .int m_force, .int m_x, .int m_planned, .int m_isPlanned, .int m_sounds, .int m_spoken, .ref a_wasTold, .int y_192, .ref a_kept, .ref a_row, .ref a_bestRowSoFar, .int m_bestSits, .int m_bestKnown, .int m_bestOut, .ref a_hasBy, .ref a_isFit, .ref a_knowThen, .long m_drawX, .ref a_images, .ref a_imageForce, .ref a_imageX, .ref a_isMade])), (a_told, .inl (ka_told, 100, .inl f_206)), (a_wasTold, .inl (ka_wasTold, 400, .inl ga_wasTold))] ∧ va_S A s.heap H locs ∧ lv_has ls 2 [(1, .int y_193), (0, .ref h0)] ∧ g = F0 m 21 ls []) (fun H locs g h => ?_) (fun n ih21 H locs g h => ?_) (n := 21) ⟨0, ga_told, _, (bt_w (lo := 0) (hi := 20) (bt_k (x := 0) (c := 0) (by decide)) (by decide)), fb_ga_told, (ms_0 (bt_k (x := 0) (c := 0) (by decide)) (by decide)), hP, hD, hS, hl, rfl⟩
    · obtain ⟨y_193, f_206, ls, bd_v_1, fd_a_a_told, hm, hP, hD, hS, hl, rfl⟩ := h
      exact ms_z bd_v_1 hm
    · obtain ⟨y_193, f_206, ls, bd_v_1, fd_a_a_told, hm21, hP, hD, hS, hl, rfl⟩ := h
      refine lv_iload_n hx hb dX12_undo_21 rfl (lv_at hl 0 rfl) ?_
      refine lv_bipush (v := 20) hx hb dX12_undo_22 (by decide) ?_
      refine lv_icmp_ge (tgt := 56) hx hb dX12_undo_24 (by decide) (fun c_366 => ?_) (fun c_366 => ?_)
      · refine lv_aload_n hx hb dX12_undo_56 rfl (lv_at hl 1 rfl) ?_
        refine va_get (D := (dC, dI)) (ci := 12) (v := .int y_192) (C := RX12) (T := TX12) (N := 43) hx hb hq inX12 hown hK hP 0 rfl rfl 28 (by decide) (hq _ qw_1188) (fun _ h9 => h9) rfl dX12_undo_57 ?_
        have b_367 : bt 1 20 m_undone := rf_ne_lo b_m_undone c_191 (by decide) (by decide)
        have b_368 : bt 0 19 y_192 := bt_sub ey_192 b_367 (bt_k (x := 1) (c := 1) (by decide)) (by decide)
        refine W.widen (k := 0) (n := 0) (Nat.le_of_ble_eq_true rfl) (Nat.le_of_ble_eq_true rfl) ?_
        exact W.iret (v := y_192) hx hb hr (fun t ht hW => ⟨⟨y_192, (), rfl, trivial, f_206, (fun i => [y_192].getD i 0), b_368, fd_a_a_told, by rw [ht]; exact hP, va_K.moved hW.alike hK, hD⟩, hS.F ht⟩) hS.2.2 dX12_undo_60
      · refine lv_aload_n hx hb dX12_undo_27 rfl (lv_at hl 1 rfl) ?_
        refine va_get (D := (dC, dI)) (ci := 12) (v := .ref a_told) (C := RX12) (T := TX12) (N := 43) hx hb hq inX12 hown hK hP 0 rfl rfl 20 (by decide) (hq _ qw_1180) (fun _ h9 => h9) rfl dX12_undo_28 ?_
        refine lv_bipush (v := 10) hx hb dX12_undo_31 (by decide) ?_
        refine lv_iload_n hx hb dX12_undo_33 rfl (lv_at hl 0 rfl) ?_
        refine lv_iadd hx hb dX12_undo_34 ?_
        refine lv_topi (fun y_369 ey_369 => ?_)
        refine lv_aload_n hx hb dX12_undo_35 rfl (lv_at hl 1 rfl) ?_
        refine va_get (D := (dC, dI)) (ci := 12) (v := .ref a_wasTold) (C := RX12) (T := TX12) (N := 43) hx hb hq inX12 hown hK hP 0 rfl rfl 27 (by decide) (hq _ qw_1187) (fun _ h9 => h9) rfl dX12_undo_36 ?_
        refine lv_bipush (v := 20) hx hb dX12_undo_39 (by decide) ?_
        refine lv_aload_n hx hb dX12_undo_41 rfl (lv_at hl 1 rfl) ?_
        refine va_get (D := (dC, dI)) (ci := 12) (v := .int y_192) (C := RX12) (T := TX12) (N := 43) hx hb hq inX12 hown hK hP 0 rfl rfl 28 (by decide) (hq _ qw_1188) (fun _ h9 => h9) rfl dX12_undo_42 ?_
        refine lv_imul hx hb dX12_undo_45 ?_
        refine lv_topi (fun y_370 ey_370 => ?_)
        refine lv_iload_n hx hb dX12_undo_46 rfl (lv_at hl 0 rfl) ?_
        refine lv_iadd hx hb dX12_undo_47 ?_
        refine lv_topi (fun y_371 ey_371 => ?_)
        have b_372 : bt 1 20 m_undone := rf_ne_lo b_m_undone c_191 (by decide) (by decide)
        have b_373 : bt 0 19 y_192 := bt_sub ey_192 b_372 (bt_k (x := 1) (c := 1) (by decide)) (by decide)
        have b_374 : bt 0 380 y_370 := bt_mul ey_370 (bt_k (x := 20) (c := 20) (by decide)) b_373 (by decide)
        have b_375 : bt 0 19 y_193 := rf_lt_l bd_v_1 (bt_k (x := 20) (c := 20) (by decide)) (Int32.not_le.mp c_366) (by decide)
        have b_376 : bt 0 399 y_371 := bt_add ey_371 b_374 b_375 (by decide)
        refine va_iald hx hb hK hP 2 1 rfl rfl (bt_in b_376 (by decide)) dX12_undo_48 ?_
        refine lv_topi (fun y_377 ey_377 => ?_)
        have b_378 : bt 10 29 y_369 := bt_add ey_369 (bt_k (x := 10) (c := 10) (by decide)) b_375 (by decide)
        refine va_iast hx hb hK hP hD hS 1 0 rfl rfl (bt_in b_378 (by decide)) dX12_undo_49 (fun H locs hP hD hS => ?_)
        obtain ⟨f_379, ef_379⟩ : ∃ f, f = upd f_206 (Int32.toNatClampNeg y_369) y_377 := ⟨_, rfl⟩
        rw [← ef_379] at hP hD
        have hP : va_P (dC, dI) classes [(h0, .inr (12, [.ref a_tape, .int m_taped, .int m_rules, .ref a_sign, .ref a_length, .ref a_clause, .ref a_clauses, .ref a_read, .int m_next, .int m_wrong, .int m_number, .int m_text, .int m_made, .int m_deep, .int m_lines, .ref a_open, .int m_opened, .ref a_stack, .int m_top, .ref a_word, .ref a_told, .int m_force, .int m_x, .int m_planned, .int m_isPlanned, .int m_sounds, .int m_spoken, .ref a_wasTold, .int y_192, .ref a_kept, .ref a_row, .ref a_bestRowSoFar, .int m_bestSits, .int m_bestKnown, .int m_bestOut, .ref a_hasBy, .ref a_isFit, .ref a_knowThen, .long m_drawX, .ref a_images, .ref a_imageForce, .ref a_imageX, .ref a_isMade])), (a_told, .inl (ka_told, 100, .inl f_379)), (a_wasTold, .inl (ka_wasTold, 400, .inl ga_wasTold))] H := hP
        have hD : va_D A [(h0, .inr (12, [.ref a_tape, .int m_taped, .int m_rules, .ref a_sign, .ref a_length, .ref a_clause, .ref a_clauses, .ref a_read, .int m_next, .int m_wrong, .int m_number, .int m_text, .int m_made, .int m_deep, .int m_lines, .ref a_open, .int m_opened, .ref a_stack, .int m_top, .ref a_word, .ref a_told, .int m_force, .int m_x, .int m_planned, .int m_isPlanned, .int m_sounds, .int m_spoken, .ref a_wasTold, .int y_192, .ref a_kept, .ref a_row, .ref a_bestRowSoFar, .int m_bestSits, .int m_bestKnown, .int m_bestOut, .ref a_hasBy, .ref a_isFit, .ref a_knowThen, .long m_drawX, .ref a_images, .ref a_imageForce, .ref a_imageX, .ref a_isMade])), (a_told, .inl (ka_told, 100, .inl f_379)), (a_wasTold, .inl (ka_wasTold, 400, .inl ga_wasTold))] := hD
        obtain ⟨y_380, ey_380⟩ : ∃ y : Int32, y = y_193 + 1 := ⟨_, rfl⟩
        refine lv_iinc (v := y_380) (lv' := [(1, .int y_380), (0, .ref h0)]) hx hb dX12_undo_50 hl (k := 0) rfl (by rw [ey_380]; rfl) (by decide) rfl (fun ls hl => ?_)
        refine lv_goto (tgt := 21) hx hb dX12_undo_53 (by decide) ?_
        have b_381 : bt 1 20 y_380 := bt_add ey_380 b_375 (bt_k (x := 1) (c := 1) (by decide)) (by decide)
        have d_382 : TD t0 t1 t2 t3 f_379 := td_un fd_a_a_told ef_379 ey_369 b_375 fb_ga_wasTold ey_370 ey_371 b_373 ey_377
        exact ih21 _ _ _ ⟨y_380, f_379, _, (bt_w (lo := 0) (hi := 20) b_381 (by decide)), d_382, (ms_s ey_380 b_375 hm21 (by decide)), hP, hD, hS, hl, rfl⟩
  · refine lv_iconst (v := (-1)) hx hb dX12_undo_7 (by decide) ?_
    have b_383 : bt 0 0 m_undone := rf_eq_l (bt_k (x := 0) (c := 0) (by decide)) c_191
    refine W.widen (k := 0) (n := 0) (Nat.le_of_ble_eq_true rfl) (Nat.le_of_ble_eq_true rfl) ?_
    exact W.iret (v := (-1)) hx hb hr (fun t ht hW => ⟨⟨(-1), (), rfl, trivial, ga_told, (fun i => [m_undone].getD i 0), (bt_w (lo := 0) (hi := 19) b_383 (by decide)), fb_ga_told, by rw [ht]; exact hP, va_K.moved hW.alike hK, hD⟩, hS.F ht⟩) hS.2.2 dX12_undo_8
