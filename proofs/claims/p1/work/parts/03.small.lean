theorem qw_145 : (.instanceMethod objectInit : Cond) ∈ wsA := mA (i := 145) (by decide +kernel) rfl
theorem qw_146 : (.code objectInit ⟨#[0xb1]⟩ 1 none : Cond) ∈ wsA := mA (i := 146) (by decide +kernel) rfl
theorem qw_176 : (.arrayClass .int : Cond) ∈ wsA := mA (i := 176) (by decide +kernel) rfl
theorem qw_223 : (.methodLink RX1 3 objectInit : Cond) ∈ wsA := mA (i := 223) (by decide +kernel) rfl
theorem qw_236 : (.fieldLink RX1 9 "SpokenBite$Dinne\x72" "loud" "[I" : Cond) ∈ wsA := mA (i := 236) (by decide +kernel) rfl
theorem qw_239 : (.fieldLink RX1 15 "SpokenBite$Dinne\x72" "says" "[I" : Cond) ∈ wsA := mA (i := 239) (by decide +kernel) rfl
theorem qw_242 : (.fieldLink RX1 18 "SpokenBite$Dinne\x72" "ears" "[I" : Cond) ∈ wsA := mA (i := 242) (by decide +kernel) rfl
theorem qw_245 : (.fieldLink RX1 21 "SpokenBite$Dinne\x72" "clash" "[I" : Cond) ∈ wsA := mA (i := 245) (by decide +kernel) rfl
theorem qw_268 : (.methodLink RX3 3 objectInit : Cond) ∈ wsA := mA (i := 268) (by decide +kernel) rfl
theorem qw_272 : (.fieldLink RX3 9 "SpokenBite$Evening" "offered" "I" : Cond) ∈ wsA := mA (i := 272) (by decide +kernel) rfl
theorem qw_467 : (.fieldLink RX11 336 "SpokenBite" "x" "I" : Cond) ∈ wsA := mA (i := 467) (by decide +kernel) rfl
theorem dX11_seed_0 : decode cX11_seed 0 = .ok (.iload_n 1, 1) := by decide +kernel
theorem dX11_seed_1 : decode cX11_seed 1 = .ok (.ifCond .ge 5, 3) := by decide +kernel
theorem dX11_seed_4 : decode cX11_seed 4 = .ok (.iconst (-1), 1) := by decide +kernel
theorem dX11_seed_5 : decode cX11_seed 5 = .ok (.ireturn, 1) := by decide +kernel
theorem dX11_seed_6 : decode cX11_seed 6 = .ok (.aload_n 0, 1) := by decide +kernel
theorem dX11_seed_7 : decode cX11_seed 7 = .ok (.getfield 336, 3) := by decide +kernel
theorem dX11_seed_10 : decode cX11_seed 10 = .ok (.istore_n 2, 1) := by decide +kernel
theorem dX11_seed_11 : decode cX11_seed 11 = .ok (.aload_n 0, 1) := by decide +kernel
theorem dX11_seed_12 : decode cX11_seed 12 = .ok (.iload_n 1, 1) := by decide +kernel
theorem dX11_seed_13 : decode cX11_seed 13 = .ok (.putfield 336, 3) := by decide +kernel
theorem dX11_seed_16 : decode cX11_seed 16 = .ok (.iload_n 2, 1) := by decide +kernel
theorem dX11_seed_17 : decode cX11_seed 17 = .ok (.ireturn, 1) := by decide +kernel
theorem dX1_init_0 : decode cX1_init 0 = .ok (.aload_n 0, 1) := by decide +kernel
theorem dX1_init_1 : decode cX1_init 1 = .ok (.invokespecial 3, 3) := by decide +kernel
theorem dX1_init_4 : decode cX1_init 4 = .ok (.aload_n 0, 1) := by decide +kernel
theorem dX1_init_5 : decode cX1_init 5 = .ok (.bipush 8, 2) := by decide +kernel
theorem dX1_init_7 : decode cX1_init 7 = .ok (.newarray .int, 2) := by decide +kernel
theorem dX1_init_9 : decode cX1_init 9 = .ok (.putfield 9, 3) := by decide +kernel
theorem dX1_init_12 : decode cX1_init 12 = .ok (.aload_n 0, 1) := by decide +kernel
theorem dX1_init_13 : decode cX1_init 13 = .ok (.bipush 8, 2) := by decide +kernel
theorem dX1_init_15 : decode cX1_init 15 = .ok (.newarray .int, 2) := by decide +kernel
theorem dX1_init_17 : decode cX1_init 17 = .ok (.putfield 15, 3) := by decide +kernel
theorem dX1_init_20 : decode cX1_init 20 = .ok (.aload_n 0, 1) := by decide +kernel
theorem dX1_init_21 : decode cX1_init 21 = .ok (.bipush 8, 2) := by decide +kernel
theorem dX1_init_23 : decode cX1_init 23 = .ok (.newarray .int, 2) := by decide +kernel
theorem dX1_init_25 : decode cX1_init 25 = .ok (.putfield 18, 3) := by decide +kernel
theorem dX1_init_28 : decode cX1_init 28 = .ok (.aload_n 0, 1) := by decide +kernel
theorem dX1_init_29 : decode cX1_init 29 = .ok (.bipush 8, 2) := by decide +kernel
theorem dX1_init_31 : decode cX1_init 31 = .ok (.newarray .int, 2) := by decide +kernel
theorem dX1_init_33 : decode cX1_init 33 = .ok (.putfield 21, 3) := by decide +kernel
theorem dX1_init_36 : decode cX1_init 36 = .ok (.return_, 1) := by decide +kernel
theorem dX3_init_0 : decode cX3_init 0 = .ok (.aload_n 0, 1) := by decide +kernel
theorem dX3_init_1 : decode cX3_init 1 = .ok (.invokespecial 3, 3) := by decide +kernel
theorem dX3_init_4 : decode cX3_init 4 = .ok (.aload_n 0, 1) := by decide +kernel
theorem dX3_init_5 : decode cX3_init 5 = .ok (.iconst (-1), 1) := by decide +kernel
theorem dX3_init_6 : decode cX3_init 6 = .ok (.putfield 9, 3) := by decide +kernel
theorem dX3_init_9 : decode cX3_init 9 = .ok (.return_, 1) := by decide +kernel
set_option maxHeartbeats 4000000 in
set_option maxRecDepth 100000 in
/-- Evening() -/
theorem c_Evening_init (l : Launch) (dC : Nat → ClassId) (dI : Nat → Nat → Nat) (sz : Nat) (h0 : Nat) : Met l yX3_init (.code yX3_init cX3_init 1 none :: wsA) ({ frames := 1, cells := 0, slots := 0, locals := 12 }) (va_Pc [.ref h0] (fun U => U.heap.size = sz ∧ va_P (dC, dI) classes [(h0, .inr (3, [.int 0, .int 0, .int 0, .int 0, .int 0, .long 0]))] U.heap ∧ va_K (dC, dI) classes [] U ∧ va_D (fun _ => True) [(h0, .inr (3, [.int 0, .int 0, .int 0, .int 0, .int 0, .long 0]))] ∧ xE U)) (va_Qv (fun (_ : Unit) => True) (fun _ t => va_P (dC, dI) classes [(h0, .inr (3, [.int 0, .int (-1), .int 0, .int 0, .int 0, .long 0]))] t.heap ∧ va_K (dC, dI) classes [] t ∧ va_D (va_A [(h0, .inr (3, [.int 0, .int 0, .int 0, .int 0, .int 0, .long 0]))] sz) [(h0, .inr (3, [.int 0, .int (-1), .int 0, .int 0, .int 0, .long 0]))]) (va_A [(h0, .inr (3, [.int 0, .int 0, .int 0, .int 0, .int 0, .long 0]))] sz)) 0 0 (va_A [(h0, .inr (3, [.int 0, .int 0, .int 0, .int 0, .int 0, .long 0]))] sz) := by
  refine Met.ofW (cc := cX3_init) (maxL := 1) (ret := none) (by decide) rfl ?_
  intro p e s m args below meth c s₁ B hml hv
  obtain ⟨rfl, hsz, hP, hK, hD0, hE⟩ := hv
  have hx := B.exec
  have hb := B.bytes
  have hr := B.returns
  have hts := atoms_spec (ws := .code yX3_init cX3_init 1 none :: wsA) B.pre
  have hq : ∀ w ∈ wsA, w.before _ s = true := fun w h => hts w (List.mem_cons_of_mem _ h)
  have hown : s.vm.findClass RX3 = some m.cls := findClass_of_methodNamed B.named
  have hlocks := B.notSynchronized
  have hin : meth.name = "<init>" := (name_of_methodNamed B.named B.method).1
  subst hsz
  have hD := hD0.self (sz := s.heap.size)
  generalize hAe : va_A [(h0, .inr (3, [.int 0, .int 0, .int 0, .int 0, .int 0, .long 0]))] s.heap.size = A at hD ⊢
  have hA : ∀ q : Nat, s.heap.size ≤ q → A q := fun q h => by rw [← hAe]; exact Or.inr h
  have hS : va_S A s.heap s.heap [] := va_S.rf
  have hl := lv_entry ([.ref h0]) (n := 1) (Nat.le_of_ble_eq_true rfl)
  rw [lg_entry_eq]
  generalize (lg_sl ([.ref h0]) ++ List.replicate (1 - (lg_sl ([.ref h0])).length) Slot.unset).toArray = ls at hl ⊢
  have hl : lv_has ls 1 [(0, .ref h0)] := hl
  refine lv_aload_n hx hb dX3_init_0 rfl (lv_at hl 0 rfl) ?_
  refine W.objInit hx hb hown (hq _ qw_268) (hq _ qw_145) (hq _ qw_146) rfl (by rw [hml]; exact hl.1) rfl dX3_init_1 (Nat.le_of_ble_eq_true rfl) (Nat.le_of_ble_eq_true rfl) ?_
  refine W.eq (g2 := F0 m 4 ls []) rfl ?_
  refine lv_aload_n hx hb dX3_init_4 rfl (lv_at hl 0 rfl) ?_
  refine lv_iconst (v := (-1)) hx hb dX3_init_5 (by decide) ?_
  refine va_put (D := (dC, dI)) (ci := 3) (v := .int (-1)) (ty := .int) (C := RX3) (T := TX3) (N := 6) hx hb hq inX3 tyX3 tyX3_ok nmX3 hown hK hP hD hS 0 rfl rfl 1 (by decide) (hq _ qw_272) (fun _ h9 => h9) rfl (by decide +kernel) rfl rfl (Nat.le_of_ble_eq_true rfl) dX3_init_6 (fun H locs hP hD hS => ?_)
  have hP : va_P (dC, dI) classes [(h0, .inr (3, [.int 0, .int (-1), .int 0, .int 0, .int 0, .long 0]))] H := hP
  have hD : va_D A [(h0, .inr (3, [.int 0, .int (-1), .int 0, .int 0, .int 0, .long 0]))] := hD
  have hP9 := hP.sub (ws' := [(h0, .inr (3, [.int 0, .int (-1), .int 0, .int 0, .int 0, .long 0]))]) [0] rfl
  have hD9 := hD.sub (ws' := [(h0, .inr (3, [.int 0, .int (-1), .int 0, .int 0, .int 0, .long 0]))]) [0] (by decide) rfl
  have hK9 := hK.sub (tys' := []) [] rfl
  refine W.widen (k := 0) (n := 0) (Nat.le_of_ble_eq_true rfl) (Nat.le_of_ble_eq_true rfl) ?_
  exact W.vret hx hb hr (fun t ht hW => ⟨⟨(), rfl, trivial, by rw [ht]; exact hP9, va_K.moved hW.alike hK9, hD9⟩, hS.F ht⟩) hS.2.2 dX3_init_9

set_option maxHeartbeats 4000000 in
set_option maxRecDepth 100000 in
/-- Dinner() -/
theorem c_Dinner_init (l : Launch) (dC : Nat → ClassId) (dI : Nat → Nat → Nat) (sz : Nat) (h0 : Nat) : Met l yX1_init (.code yX1_init cX1_init 1 none :: wsA) ({ frames := 1, cells := 4, slots := 32, locals := 12 }) (va_Pc [.ref h0] (fun U => U.heap.size = sz ∧ va_P (dC, dI) classes [(h0, .inr (1, [.int 0, .int 0, .int 0, .null, .null, .null, .null]))] U.heap ∧ va_K (dC, dI) classes [] U ∧ va_D (fun _ => True) [(h0, .inr (1, [.int 0, .int 0, .int 0, .null, .null, .null, .null]))] ∧ xE U)) (va_Qv (fun (_ : Unit) => True) (fun _ t => ∃ (o_q_1 : Nat) (o_q_3 : Nat) (o_q_5 : Nat) (o_q_7 : Nat) (o_k_2 : ClassId) (o_k_4 : ClassId) (o_k_6 : ClassId) (o_k_8 : ClassId), va_P (dC, dI) classes [(h0, .inr (1, [.int 0, .int 0, .int 0, .ref o_q_1, .ref o_q_3, .ref o_q_5, .ref o_q_7])), (o_q_1, .inl (o_k_2, 8, .inl (fun _ => 0))), (o_q_3, .inl (o_k_4, 8, .inl (fun _ => 0))), (o_q_5, .inl (o_k_6, 8, .inl (fun _ => 0))), (o_q_7, .inl (o_k_8, 8, .inl (fun _ => 0)))] t.heap ∧ va_K (dC, dI) classes [(o_k_2, .int), (o_k_4, .int), (o_k_6, .int), (o_k_8, .int)] t ∧ va_D (va_A [(h0, .inr (1, [.int 0, .int 0, .int 0, .null, .null, .null, .null]))] sz) [(h0, .inr (1, [.int 0, .int 0, .int 0, .ref o_q_1, .ref o_q_3, .ref o_q_5, .ref o_q_7])), (o_q_1, .inl (o_k_2, 8, .inl (fun _ => 0))), (o_q_3, .inl (o_k_4, 8, .inl (fun _ => 0))), (o_q_5, .inl (o_k_6, 8, .inl (fun _ => 0))), (o_q_7, .inl (o_k_8, 8, .inl (fun _ => 0)))]) (va_A [(h0, .inr (1, [.int 0, .int 0, .int 0, .null, .null, .null, .null]))] sz)) 4 32 (va_A [(h0, .inr (1, [.int 0, .int 0, .int 0, .null, .null, .null, .null]))] sz) := by
  refine Met.ofW (cc := cX1_init) (maxL := 1) (ret := none) (by decide) rfl ?_
  intro p e s m args below meth c s₁ B hml hv
  obtain ⟨rfl, hsz, hP, hK, hD0, hE⟩ := hv
  have hx := B.exec
  have hb := B.bytes
  have hr := B.returns
  have hts := atoms_spec (ws := .code yX1_init cX1_init 1 none :: wsA) B.pre
  have hq : ∀ w ∈ wsA, w.before _ s = true := fun w h => hts w (List.mem_cons_of_mem _ h)
  have hown : s.vm.findClass RX1 = some m.cls := findClass_of_methodNamed B.named
  have hlocks := B.notSynchronized
  have hin : meth.name = "<init>" := (name_of_methodNamed B.named B.method).1
  subst hsz
  have hD := hD0.self (sz := s.heap.size)
  generalize hAe : va_A [(h0, .inr (1, [.int 0, .int 0, .int 0, .null, .null, .null, .null]))] s.heap.size = A at hD ⊢
  have hA : ∀ q : Nat, s.heap.size ≤ q → A q := fun q h => by rw [← hAe]; exact Or.inr h
  have hS : va_S A s.heap s.heap [] := va_S.rf
  have hl := lv_entry ([.ref h0]) (n := 1) (Nat.le_of_ble_eq_true rfl)
  rw [lg_entry_eq]
  generalize (lg_sl ([.ref h0]) ++ List.replicate (1 - (lg_sl ([.ref h0])).length) Slot.unset).toArray = ls at hl ⊢
  have hl : lv_has ls 1 [(0, .ref h0)] := hl
  refine lv_aload_n hx hb dX1_init_0 rfl (lv_at hl 0 rfl) ?_
  refine W.objInit hx hb hown (hq _ qw_223) (hq _ qw_145) (hq _ qw_146) rfl (by rw [hml]; exact hl.1) rfl dX1_init_1 (Nat.le_of_ble_eq_true rfl) (Nat.le_of_ble_eq_true rfl) ?_
  refine W.eq (g2 := F0 m 4 ls []) rfl ?_
  refine lv_aload_n hx hb dX1_init_4 rfl (lv_at hl 0 rfl) ?_
  refine lv_bipush (v := 8) hx hb dX1_init_5 (by decide) ?_
  refine va_newa (atype := .int) (ty := .int) (N' := 8) (a0 := (8, .inl (fun _ => 0))) hx hb (hq _ qw_176) rfl hK hP hD hS hA (fun _ => rfl) (by decide) (by decide) (Nat.le_of_ble_eq_true rfl) (Nat.le_of_ble_eq_true rfl) (Nat.le_of_ble_eq_true rfl) dX1_init_7 (fun q_1 k_2 H hK hP hD hS => ?_)
  have hP : va_P (dC, dI) classes [(h0, .inr (1, [.int 0, .int 0, .int 0, .null, .null, .null, .null])), (q_1, .inl (k_2, 8, .inl (fun _ => 0)))] H := hP
  have hD : va_D A [(h0, .inr (1, [.int 0, .int 0, .int 0, .null, .null, .null, .null])), (q_1, .inl (k_2, 8, .inl (fun _ => 0)))] := hD
  have hK : va_K (dC, dI) classes [(k_2, .int)] s := hK
  refine W.widen (k := 1) (n := 8) (Nat.le_of_ble_eq_true rfl) (Nat.le_of_ble_eq_true rfl) ?_
  refine va_putF (D := (dC, dI)) (ci := 1) (v := .ref q_1) (ty := .array .int) (C := RX1) (T := TX1) (N := 7) hx hb hq inX1 tyX1 tyX1_ok nmX1 hown hK hP hD hS 0 rfl rfl 3 (by decide) (hq _ qw_236) (fun _ h9 => h9) rfl hin rfl (by decide +kernel) rfl rfl (Nat.le_of_ble_eq_true rfl) dX1_init_9 (fun H locs hP hD hS => ?_)
  have hP : va_P (dC, dI) classes [(h0, .inr (1, [.int 0, .int 0, .int 0, .ref q_1, .null, .null, .null])), (q_1, .inl (k_2, 8, .inl (fun _ => 0)))] H := hP
  have hD : va_D A [(h0, .inr (1, [.int 0, .int 0, .int 0, .ref q_1, .null, .null, .null])), (q_1, .inl (k_2, 8, .inl (fun _ => 0)))] := hD
  refine lv_aload_n hx hb dX1_init_12 rfl (lv_at hl 0 rfl) ?_
  refine lv_bipush (v := 8) hx hb dX1_init_13 (by decide) ?_
  refine va_newa (atype := .int) (ty := .int) (N' := 8) (a0 := (8, .inl (fun _ => 0))) hx hb (hq _ qw_176) rfl hK hP hD hS hA (fun _ => rfl) (by decide) (by decide) (Nat.le_of_ble_eq_true rfl) (Nat.le_of_ble_eq_true rfl) (Nat.le_of_ble_eq_true rfl) dX1_init_15 (fun q_3 k_4 H hK hP hD hS => ?_)
  have hP : va_P (dC, dI) classes [(h0, .inr (1, [.int 0, .int 0, .int 0, .ref q_1, .null, .null, .null])), (q_1, .inl (k_2, 8, .inl (fun _ => 0))), (q_3, .inl (k_4, 8, .inl (fun _ => 0)))] H := hP
  have hD : va_D A [(h0, .inr (1, [.int 0, .int 0, .int 0, .ref q_1, .null, .null, .null])), (q_1, .inl (k_2, 8, .inl (fun _ => 0))), (q_3, .inl (k_4, 8, .inl (fun _ => 0)))] := hD
  have hK : va_K (dC, dI) classes [(k_2, .int), (k_4, .int)] s := hK
  refine W.widen (k := 2) (n := 16) (Nat.le_of_ble_eq_true rfl) (Nat.le_of_ble_eq_true rfl) ?_
  refine va_putF (D := (dC, dI)) (ci := 1) (v := .ref q_3) (ty := .array .int) (C := RX1) (T := TX1) (N := 7) hx hb hq inX1 tyX1 tyX1_ok nmX1 hown hK hP hD hS 0 rfl rfl 4 (by decide) (hq _ qw_239) (fun _ h9 => h9) rfl hin rfl (by decide +kernel) rfl rfl (Nat.le_of_ble_eq_true rfl) dX1_init_17 (fun H locs hP hD hS => ?_)
  have hP : va_P (dC, dI) classes [(h0, .inr (1, [.int 0, .int 0, .int 0, .ref q_1, .ref q_3, .null, .null])), (q_1, .inl (k_2, 8, .inl (fun _ => 0))), (q_3, .inl (k_4, 8, .inl (fun _ => 0)))] H := hP
  have hD : va_D A [(h0, .inr (1, [.int 0, .int 0, .int 0, .ref q_1, .ref q_3, .null, .null])), (q_1, .inl (k_2, 8, .inl (fun _ => 0))), (q_3, .inl (k_4, 8, .inl (fun _ => 0)))] := hD
  refine lv_aload_n hx hb dX1_init_20 rfl (lv_at hl 0 rfl) ?_
  refine lv_bipush (v := 8) hx hb dX1_init_21 (by decide) ?_
  refine va_newa (atype := .int) (ty := .int) (N' := 8) (a0 := (8, .inl (fun _ => 0))) hx hb (hq _ qw_176) rfl hK hP hD hS hA (fun _ => rfl) (by decide) (by decide) (Nat.le_of_ble_eq_true rfl) (Nat.le_of_ble_eq_true rfl) (Nat.le_of_ble_eq_true rfl) dX1_init_23 (fun q_5 k_6 H hK hP hD hS => ?_)
  have hP : va_P (dC, dI) classes [(h0, .inr (1, [.int 0, .int 0, .int 0, .ref q_1, .ref q_3, .null, .null])), (q_1, .inl (k_2, 8, .inl (fun _ => 0))), (q_3, .inl (k_4, 8, .inl (fun _ => 0))), (q_5, .inl (k_6, 8, .inl (fun _ => 0)))] H := hP
  have hD : va_D A [(h0, .inr (1, [.int 0, .int 0, .int 0, .ref q_1, .ref q_3, .null, .null])), (q_1, .inl (k_2, 8, .inl (fun _ => 0))), (q_3, .inl (k_4, 8, .inl (fun _ => 0))), (q_5, .inl (k_6, 8, .inl (fun _ => 0)))] := hD
  have hK : va_K (dC, dI) classes [(k_2, .int), (k_4, .int), (k_6, .int)] s := hK
  refine W.widen (k := 3) (n := 24) (Nat.le_of_ble_eq_true rfl) (Nat.le_of_ble_eq_true rfl) ?_
  refine va_putF (D := (dC, dI)) (ci := 1) (v := .ref q_5) (ty := .array .int) (C := RX1) (T := TX1) (N := 7) hx hb hq inX1 tyX1 tyX1_ok nmX1 hown hK hP hD hS 0 rfl rfl 5 (by decide) (hq _ qw_242) (fun _ h9 => h9) rfl hin rfl (by decide +kernel) rfl rfl (Nat.le_of_ble_eq_true rfl) dX1_init_25 (fun H locs hP hD hS => ?_)
  have hP : va_P (dC, dI) classes [(h0, .inr (1, [.int 0, .int 0, .int 0, .ref q_1, .ref q_3, .ref q_5, .null])), (q_1, .inl (k_2, 8, .inl (fun _ => 0))), (q_3, .inl (k_4, 8, .inl (fun _ => 0))), (q_5, .inl (k_6, 8, .inl (fun _ => 0)))] H := hP
  have hD : va_D A [(h0, .inr (1, [.int 0, .int 0, .int 0, .ref q_1, .ref q_3, .ref q_5, .null])), (q_1, .inl (k_2, 8, .inl (fun _ => 0))), (q_3, .inl (k_4, 8, .inl (fun _ => 0))), (q_5, .inl (k_6, 8, .inl (fun _ => 0)))] := hD
  refine lv_aload_n hx hb dX1_init_28 rfl (lv_at hl 0 rfl) ?_
  refine lv_bipush (v := 8) hx hb dX1_init_29 (by decide) ?_
  refine va_newa (atype := .int) (ty := .int) (N' := 8) (a0 := (8, .inl (fun _ => 0))) hx hb (hq _ qw_176) rfl hK hP hD hS hA (fun _ => rfl) (by decide) (by decide) (Nat.le_of_ble_eq_true rfl) (Nat.le_of_ble_eq_true rfl) (Nat.le_of_ble_eq_true rfl) dX1_init_31 (fun q_7 k_8 H hK hP hD hS => ?_)
  have hP : va_P (dC, dI) classes [(h0, .inr (1, [.int 0, .int 0, .int 0, .ref q_1, .ref q_3, .ref q_5, .null])), (q_1, .inl (k_2, 8, .inl (fun _ => 0))), (q_3, .inl (k_4, 8, .inl (fun _ => 0))), (q_5, .inl (k_6, 8, .inl (fun _ => 0))), (q_7, .inl (k_8, 8, .inl (fun _ => 0)))] H := hP
  have hD : va_D A [(h0, .inr (1, [.int 0, .int 0, .int 0, .ref q_1, .ref q_3, .ref q_5, .null])), (q_1, .inl (k_2, 8, .inl (fun _ => 0))), (q_3, .inl (k_4, 8, .inl (fun _ => 0))), (q_5, .inl (k_6, 8, .inl (fun _ => 0))), (q_7, .inl (k_8, 8, .inl (fun _ => 0)))] := hD
  have hK : va_K (dC, dI) classes [(k_2, .int), (k_4, .int), (k_6, .int), (k_8, .int)] s := hK
  refine W.widen (k := 4) (n := 32) (Nat.le_of_ble_eq_true rfl) (Nat.le_of_ble_eq_true rfl) ?_
  refine va_putF (D := (dC, dI)) (ci := 1) (v := .ref q_7) (ty := .array .int) (C := RX1) (T := TX1) (N := 7) hx hb hq inX1 tyX1 tyX1_ok nmX1 hown hK hP hD hS 0 rfl rfl 6 (by decide) (hq _ qw_245) (fun _ h9 => h9) rfl hin rfl (by decide +kernel) rfl rfl (Nat.le_of_ble_eq_true rfl) dX1_init_33 (fun H locs hP hD hS => ?_)
  have hP : va_P (dC, dI) classes [(h0, .inr (1, [.int 0, .int 0, .int 0, .ref q_1, .ref q_3, .ref q_5, .ref q_7])), (q_1, .inl (k_2, 8, .inl (fun _ => 0))), (q_3, .inl (k_4, 8, .inl (fun _ => 0))), (q_5, .inl (k_6, 8, .inl (fun _ => 0))), (q_7, .inl (k_8, 8, .inl (fun _ => 0)))] H := hP
  have hD : va_D A [(h0, .inr (1, [.int 0, .int 0, .int 0, .ref q_1, .ref q_3, .ref q_5, .ref q_7])), (q_1, .inl (k_2, 8, .inl (fun _ => 0))), (q_3, .inl (k_4, 8, .inl (fun _ => 0))), (q_5, .inl (k_6, 8, .inl (fun _ => 0))), (q_7, .inl (k_8, 8, .inl (fun _ => 0)))] := hD
  have hP9 := hP.sub (ws' := [(h0, .inr (1, [.int 0, .int 0, .int 0, .ref q_1, .ref q_3, .ref q_5, .ref q_7])), (q_1, .inl (k_2, 8, .inl (fun _ => 0))), (q_3, .inl (k_4, 8, .inl (fun _ => 0))), (q_5, .inl (k_6, 8, .inl (fun _ => 0))), (q_7, .inl (k_8, 8, .inl (fun _ => 0)))]) [0, 1, 2, 3, 4] rfl
  have hD9 := hD.sub (ws' := [(h0, .inr (1, [.int 0, .int 0, .int 0, .ref q_1, .ref q_3, .ref q_5, .ref q_7])), (q_1, .inl (k_2, 8, .inl (fun _ => 0))), (q_3, .inl (k_4, 8, .inl (fun _ => 0))), (q_5, .inl (k_6, 8, .inl (fun _ => 0))), (q_7, .inl (k_8, 8, .inl (fun _ => 0)))]) [0, 1, 2, 3, 4] (by decide) rfl
  have hK9 := hK.sub (tys' := [(k_2, .int), (k_4, .int), (k_6, .int), (k_8, .int)]) [0, 1, 2, 3] rfl
  refine W.widen (k := 4) (n := 32) (Nat.le_of_ble_eq_true rfl) (Nat.le_of_ble_eq_true rfl) ?_
  exact W.vret hx hb hr (fun t ht hW => ⟨⟨(), rfl, trivial, q_1, q_3, q_5, q_7, k_2, k_4, k_6, k_8, by rw [ht]; exact hP9, va_K.moved hW.alike hK9, hD9⟩, hS.F ht⟩) hS.2.2 dX1_init_36

set_option maxHeartbeats 4000000 in
set_option maxRecDepth 100000 in
/-- seed of a new object -/
theorem c_SB_seed (l : Launch) (dC : Nat → ClassId) (dI : Nat → Nat → Nat) (sz : Nat) (h0 : Nat) (s0 : Nat) (s2 : Nat) (s3 : Nat) (s4 : Nat) (s7 : Nat) (s8 : Nat) (s9 : Nat) (s10 : Nat) (s11 : Nat) (s12 : Nat) (s13 : Nat) (s14 : Nat) (s15 : Nat) (s16 : Nat) (s17 : Nat) (x0 : Int32) : Met l yX11_seed (.code yX11_seed cX11_seed 3 (some .int) :: wsA) ({ frames := 0, cells := 0, slots := 0, locals := 0 }) (va_Pc [.ref h0, .int x0] (fun U => U.heap.size = sz ∧ va_P (dC, dI) classes [(h0, .inr (11, [.ref s0, .int 0, .ref s2, .ref s3, .ref s4, .int 0, .int (-1), .ref s7, .ref s8, .ref s9, .ref s10, .ref s11, .ref s12, .ref s13, .ref s14, .ref s15, .ref s16, .ref s17, .int 0]))] U.heap ∧ va_K (dC, dI) classes [] U ∧ va_D (fun _ => True) [(h0, .inr (11, [.ref s0, .int 0, .ref s2, .ref s3, .ref s4, .int 0, .int (-1), .ref s7, .ref s8, .ref s9, .ref s10, .ref s11, .ref s12, .ref s13, .ref s14, .ref s15, .ref s16, .ref s17, .int 0]))] ∧ xE U)) (va_Qi (fun (r : Int32) (_ : Unit) => (x0 < 0 → r = -1) ∧ (¬ x0 < 0 → r = 0)) (fun _ _ => True) (va_A [(h0, .inr (11, [.ref s0, .int 0, .ref s2, .ref s3, .ref s4, .int 0, .int (-1), .ref s7, .ref s8, .ref s9, .ref s10, .ref s11, .ref s12, .ref s13, .ref s14, .ref s15, .ref s16, .ref s17, .int 0]))] sz)) 0 0 (va_A [(h0, .inr (11, [.ref s0, .int 0, .ref s2, .ref s3, .ref s4, .int 0, .int (-1), .ref s7, .ref s8, .ref s9, .ref s10, .ref s11, .ref s12, .ref s13, .ref s14, .ref s15, .ref s16, .ref s17, .int 0]))] sz) := by
  refine Met.ofW (cc := cX11_seed) (maxL := 3) (ret := (some .int)) (by decide) rfl ?_
  intro p e s m args below meth c s₁ B hml hv
  obtain ⟨rfl, hsz, hP, hK, hD0, hE⟩ := hv
  have hx := B.exec
  have hb := B.bytes
  have hr := B.returns
  have hts := atoms_spec (ws := .code yX11_seed cX11_seed 3 (some .int) :: wsA) B.pre
  have hq : ∀ w ∈ wsA, w.before _ s = true := fun w h => hts w (List.mem_cons_of_mem _ h)
  have hown : s.vm.findClass RX11 = some m.cls := findClass_of_methodNamed B.named
  have hlocks := B.notSynchronized
  subst hsz
  have hD := hD0.self (sz := s.heap.size)
  generalize hAe : va_A [(h0, .inr (11, [.ref s0, .int 0, .ref s2, .ref s3, .ref s4, .int 0, .int (-1), .ref s7, .ref s8, .ref s9, .ref s10, .ref s11, .ref s12, .ref s13, .ref s14, .ref s15, .ref s16, .ref s17, .int 0]))] s.heap.size = A at hD ⊢
  have hA : ∀ q : Nat, s.heap.size ≤ q → A q := fun q h => by rw [← hAe]; exact Or.inr h
  have hS : va_S A s.heap s.heap [] := va_S.rf
  have hl := lv_entry ([.ref h0, .int x0]) (n := 3) (Nat.le_of_ble_eq_true rfl)
  rw [lg_entry_eq]
  generalize (lg_sl ([.ref h0, .int x0]) ++ List.replicate (3 - (lg_sl ([.ref h0, .int x0])).length) Slot.unset).toArray = ls at hl ⊢
  have hl : lv_has ls 3 [(0, .ref h0), (1, .int x0)] := hl
  refine lv_iload_n hx hb dX11_seed_0 rfl (lv_at hl 1 rfl) ?_
  refine lv_if_ge (tgt := 6) hx hb dX11_seed_1 (by decide) (fun c_1 => ?_) (fun c_1 => ?_)
  · refine lv_aload_n hx hb dX11_seed_6 rfl (lv_at hl 0 rfl) ?_
    refine va_get (D := (dC, dI)) (ci := 11) (v := .int 0) (C := RX11) (T := TX11) (N := 19) hx hb hq inX11 hown hK hP 0 rfl rfl 18 (by decide) (hq _ qw_467) (fun _ h9 => h9) rfl dX11_seed_7 ?_
    refine lv_istore_n (lv' := [(2, .int 0), (0, .ref h0), (1, .int x0)]) hx hb dX11_seed_10 rfl hl (by decide) rfl (fun ls hl => ?_)
    refine lv_aload_n hx hb dX11_seed_11 rfl (lv_at hl 1 rfl) ?_
    refine lv_iload_n hx hb dX11_seed_12 rfl (lv_at hl 2 rfl) ?_
    refine va_put (D := (dC, dI)) (ci := 11) (v := .int x0) (ty := .int) (C := RX11) (T := TX11) (N := 19) hx hb hq inX11 tyX11 tyX11_ok nmX11 hown hK hP hD hS 0 rfl rfl 18 (by decide) (hq _ qw_467) (fun _ h9 => h9) rfl (by decide +kernel) rfl rfl (Nat.le_of_ble_eq_true rfl) dX11_seed_13 (fun H locs hP hD hS => ?_)
    have hP : va_P (dC, dI) classes [(h0, .inr (11, [.ref s0, .int 0, .ref s2, .ref s3, .ref s4, .int 0, .int (-1), .ref s7, .ref s8, .ref s9, .ref s10, .ref s11, .ref s12, .ref s13, .ref s14, .ref s15, .ref s16, .ref s17, .int x0]))] H := hP
    have hD : va_D A [(h0, .inr (11, [.ref s0, .int 0, .ref s2, .ref s3, .ref s4, .int 0, .int (-1), .ref s7, .ref s8, .ref s9, .ref s10, .ref s11, .ref s12, .ref s13, .ref s14, .ref s15, .ref s16, .ref s17, .int x0]))] := hD
    refine lv_iload_n hx hb dX11_seed_16 rfl (lv_at hl 0 rfl) ?_
    refine W.widen (k := 0) (n := 0) (Nat.le_of_ble_eq_true rfl) (Nat.le_of_ble_eq_true rfl) ?_
    exact W.iret (v := 0) hx hb hr (fun t ht hW => ⟨⟨0, (), rfl, ⟨fun h => absurd h (Int32.not_lt.mpr c_1), fun _ => rfl⟩, trivial⟩, hS.F ht⟩) hS.2.2 dX11_seed_17
  · refine lv_iconst (v := (-1)) hx hb dX11_seed_4 (by decide) ?_
    refine W.widen (k := 0) (n := 0) (Nat.le_of_ble_eq_true rfl) (Nat.le_of_ble_eq_true rfl) ?_
    exact W.iret (v := (-1)) hx hb hr (fun t ht hW => ⟨⟨(-1), (), rfl, ⟨fun _ => rfl, fun h => absurd (Int32.not_lt.mp h) c_1⟩, trivial⟩, hS.F ht⟩) hS.2.2 dX11_seed_5
