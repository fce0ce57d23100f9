theorem qw_139 : (.classLink RL 7 RX11 : Cond) ∈ wsA := mA (i := 139) (by decide +kernel) rfl
theorem qw_140 : (.instantiable RX11 19 : Cond) ∈ wsA := mA (i := 140) (by decide +kernel) rfl
theorem qw_141 : (.methodLink RL 9 yX11_init : Cond) ∈ wsA := mA (i := 141) (by decide +kernel) rfl
theorem qw_142 : (.instanceMethod yX11_init : Cond) ∈ wsA := mA (i := 142) (by decide +kernel) rfl
theorem qw_143 : (.code yX11_init cX11_init 2 none : Cond) ∈ wsA := mA (i := 143) (by decide +kernel) rfl
theorem qw_1154 : (.classLink RL 10 RX12 : Cond) ∈ wsA := mA (i := 1154) (by decide +kernel) rfl
theorem qw_1155 : (.instantiable RX12 43 : Cond) ∈ wsA := mA (i := 1155) (by decide +kernel) rfl
theorem qw_1156 : (.methodLink RL 12 yX12_init : Cond) ∈ wsA := mA (i := 1156) (by decide +kernel) rfl
theorem qw_1157 : (.instanceMethod yX12_init : Cond) ∈ wsA := mA (i := 1157) (by decide +kernel) rfl
theorem qw_1158 : (.code yX12_init cX12_init 1 none : Cond) ∈ wsA := mA (i := 1158) (by decide +kernel) rfl
theorem dL_law_0 : decode cL_law 0 = .ok (.new 7, 3) := by decide +kernel
theorem dL_law_3 : decode cL_law 3 = .ok (.dup, 1) := by decide +kernel
theorem dL_law_4 : decode cL_law 4 = .ok (.invokespecial 9, 3) := by decide +kernel
theorem dL_law_7 : decode cL_law 7 = .ok (.astore_n 1, 1) := by decide +kernel
theorem dL_law_8 : decode cL_law 8 = .ok (.new 10, 3) := by decide +kernel
theorem dL_law_11 : decode cL_law 11 = .ok (.dup, 1) := by decide +kernel
theorem dL_law_12 : decode cL_law 12 = .ok (.invokespecial 12, 3) := by decide +kernel
theorem dL_law_15 : decode cL_law 15 = .ok (.astore_n 2, 1) := by decide +kernel
theorem dL_law_16 : decode cL_law 16 = .ok (.iconst 0, 1) := by decide +kernel
theorem dL_law_17 : decode cL_law 17 = .ok (.istore_n 3, 1) := by decide +kernel

def tmJ : Nat → Term := fun i => if i = 0 then .string RX2 31 else .string RX10 40
theorem sJ1 : ∀ i : Nat, i < 2 → Cond.exactly (tmJ i) "java/lang/String" ∈ flatC (Jvm.Cond.and given_1 narrow_1) := by decide +kernel
theorem sJ2 : ∀ i : Nat, i < 2 → Cond.eq (.field (tmJ i) "java/lang/String" "code\x72" "B") (.int 0) ∈ flatC (Jvm.Cond.and given_1 narrow_1) := by decide +kernel
theorem sJ3 : ∀ i : Nat, i < 2 → Cond.arrayOf (.field (tmJ i) "java/lang/String" "value" "[B") .byte ∈ flatC (Jvm.Cond.and given_1 narrow_1) := by decide +kernel
theorem sJ4 : ∀ i : Nat, i < 2 → Cond.eq (.length (.field (tmJ i) "java/lang/String" "value" "[B")) (.int (Int32.ofNat (lJ.getD i 0))) ∈ flatC (Jvm.Cond.and given_1 narrow_1) := by decide +kernel
theorem sJ5 : ∀ i : Nat, i < 2 → ∀ j : Nat, j < lJ.getD i 0 → Cond.eq (.elem (.field (tmJ i) "java/lang/String" "value" "[B") (.int (Int32.ofNat j))) (.int ((bJ.getD i []).getD j 0)) ∈ flatC (Jvm.Cond.and given_1 narrow_1) := by decide +kernel
theorem sJ6 : ∀ i : Nat, i < 2 → ∀ j : Nat, j < 2 → i ≠ j → (Cond.not (Cond.eq (tmJ i) (tmJ j)) ∈ flatC (Jvm.Cond.and given_1 narrow_1) ∨ Cond.not (Cond.eq (tmJ j) (tmJ i)) ∈ flatC (Jvm.Cond.and given_1 narrow_1)) := by decide +kernel
theorem mk_xT {s : State} {b : Nat} {A : Nat → Prop} (hts : ∀ w ∈ lw_tbl, w.before #[Value.ref b] s = true) (hgv : (Jvm.Cond.and given_1 narrow_1).before #[Value.ref b] s = true) (hA : ∀ a : Nat, a < s.heap.size → ¬ A a) : ∃ kA vA : Nat → Nat, xT kA vA A s s.heap := by
  have hs := flat_of_before _ hgv
  obtain ⟨kA, vA, hv, he⟩ := vk_Sof (N := 2) (tm := tmJ) (len := lJ) (byt := bJ) (A := A) (by decide) (fun i hi => hs _ (sJ1 i hi)) (fun i hi => hs _ (sJ2 i hi)) (fun i hi => hs _ (sJ3 i hi)) (fun i hi => hs _ (sJ4 i hi)) (fun i hi j hj => hs _ (sJ5 i hi j hj)) (fun i j hi hj hne => (sJ6 i hi j hj hne).imp (hs _) (hs _)) hA
  have e0 : (Term.string RX2 31).eval #[Value.ref b] s none [] s = some (.ref (kA 0)) := he 0 (by decide)
  have e1 : (Term.string RX10 40).eval #[Value.ref b] s none [] s = some (.ref (kA 1)) := he 1 (by decide)
  exact ⟨kA, vA, hv, va_Zof (hts (.laysStatic "java/lang/String" "COMPACT_STRINGS" "Z") (List.mem_of_getElem? (i := 560) (by decide +kernel))) (hts (.initialized "java/lang/String") (List.mem_of_getElem? (i := 133) (by decide +kernel))) (va_eqt (hs (Cond.eq (.static "java/lang/String" "COMPACT_STRINGS" "Z") (.int 1)) (by decide +kernel))) hA, va_Zqof (hts (.laysStatic "jdk/internal/util/Preconditions" "SIOOBE_FORMATTER" "Ljava/util/function/BiFunction;") (List.mem_of_getElem? (i := 576) (by decide +kernel))) (hts (.initialized "jdk/internal/util/Preconditions") (List.mem_of_getElem? (i := 135) (by decide +kernel))) (hs (Cond.isRef (.static "jdk/internal/util/Preconditions" "SIOOBE_FORMATTER" "Ljava/util/function/BiFunction;")) (by decide +kernel)) hA, vk_R.of (hts (.stringRef RX2 31 "dinner dish guest clash ") (List.mem_of_getElem? (i := 546) (by decide +kernel))) e0, vk_R.of (hts (.stringRef RX10 40 "eat ") (List.mem_of_getElem? (i := 681) (by decide +kernel))) e1⟩
theorem xN_eq : xN.map (fun q => Cond.methodLinkNest q.1 q.2.1 q.2.2.1 q.2.2.2) = [149, 155, 183, 188, 191, 220, 265, 303, 332, 348, 353, 390, 414, 416, 421, 423, 425].filterMap (fun i => lw_tbl[i]?) := by decide +kernel
theorem mk_xE {s : State} {b : Nat} (hts : ∀ w ∈ lw_tbl, w.before #[Value.ref b] s = true) : xE s := by
  refine ⟨fun q hq => va_Nw.of rfl (hts _ ?_), va_AO.of (hts (.arrayOver (.object RX9)) (List.mem_of_getElem? (i := 217) (by decide +kernel))), va_AO.of (hts (.arrayOver (.object RX3)) (List.mem_of_getElem? (i := 331) (by decide +kernel))), va_AO.of (hts (.arrayOver (.object RX4)) (List.mem_of_getElem? (i := 345) (by decide +kernel)))⟩
  have h1 : Cond.methodLinkNest q.1 q.2.1 q.2.2.1 q.2.2.2 ∈ xN.map (fun q => Cond.methodLinkNest q.1 q.2.1 q.2.2.1 q.2.2.2) := List.mem_map.mpr ⟨q, hq, rfl⟩
  rw [xN_eq] at h1
  obtain ⟨i, -, hi⟩ := List.mem_filterMap.mp h1
  exact List.mem_of_getElem? hi
