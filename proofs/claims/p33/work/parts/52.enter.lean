theorem qw_139 : (.classLink RL 7 RX11 : Cond) ∈ wsA := mA (i := 139) (by decide +kernel) rfl
theorem qw_140 : (.instantiable RX11 19 : Cond) ∈ wsA := mA (i := 140) (by decide +kernel) rfl
theorem qw_141 : (.methodLink RL 9 yX11_init : Cond) ∈ wsA := mA (i := 141) (by decide +kernel) rfl
theorem qw_142 : (.instanceMethod yX11_init : Cond) ∈ wsA := mA (i := 142) (by decide +kernel) rfl
theorem qw_143 : (.code yX11_init cX11_init 2 none : Cond) ∈ wsA := mA (i := 143) (by decide +kernel) rfl
theorem qw_1154 : (.classLink RL 10 RX12 : Cond) ∈ wsA := mA (i := 1154) (by decide +kernel) rfl
theorem qw_1155 : (.instantiable RX12 43 : Cond) ∈ wsA := mA (i := 1155) (by decide +kernel) rfl
theorem qw_1156 : (.methodLink RL 12 yX12_init : Cond) ∈ wsA := mA (i := 1156) (by decide +kernel) rfl
theorem dL_law_0 : decode cL_law 0 = .ok (.new 7, 3) := by decide +kernel
theorem dL_law_3 : decode cL_law 3 = .ok (.dup, 1) := by decide +kernel
theorem dL_law_4 : decode cL_law 4 = .ok (.invokespecial 9, 3) := by decide +kernel
theorem dL_law_7 : decode cL_law 7 = .ok (.astore_n 1, 1) := by decide +kernel
theorem dL_law_8 : decode cL_law 8 = .ok (.new 10, 3) := by decide +kernel
theorem dL_law_11 : decode cL_law 11 = .ok (.dup, 1) := by decide +kernel
theorem dL_law_12 : decode cL_law 12 = .ok (.invokespecial 12, 3) := by decide +kernel
theorem dL_law_15 : decode cL_law 15 = .ok (.astore_n 2, 1) := by decide +kernel
theorem dL_law_16 : decode cL_law 16 = .ok (.iconst 0, 1) := by decide +kernel
theorem dL_law_17 : decode cL_law 17 = .ok (.istore_n 3, 1) := by decide +kernel

/-- behind a call over the last cell -/
theorem at_left {w1 w2 : va_W} {k : Nat} {q : Nat × va_E} (hk : w1[k]? = some q) : (w1 ++ w2)[k]? = some q ∧ k < w1.length := by
  have hlt : k < w1.length := by
    rcases Nat.lt_or_ge k w1.length with g | g
    · exact g
    · rw [List.getElem?_eq_none g] at hk; cases hk
  exact ⟨by rw [List.getElem?_append_left hlt]; exact hk, hlt⟩
theorem at_last {w1 : va_W} {c : Nat × va_E} : (w1 ++ [c])[w1.length]? = some c := by
  rw [List.getElem?_append_right (Nat.le_refl _), Nat.sub_self]; rfl
theorem D_left {A : Nat → Prop} {w1 w2 : va_W} (h : va_D A (w1 ++ w2)) : va_D A w1 := ⟨fun i j p q hi hj e => h.1 i j p q (at_left hi).1 (at_left hj).1 e, fun k q hk => h.2 k q (at_left hk).1⟩
theorem one_at {c q : Nat × va_E} {k : Nat} (h : [c][k]? = some q) : k = 0 ∧ q = c := by
  cases k with
  | zero => exact ⟨rfl, (Option.some.inj h).symm⟩
  | succ k => simp at h
theorem D_last {A : Nat → Prop} {w1 : va_W} {c : Nat × va_E} (h : va_D A (w1 ++ [c])) : va_D A [c] := ⟨fun i j p q hi hj _ => (one_at hi).1.trans (one_at hj).1.symm, fun k q hk => by rw [(one_at hk).2]; exact h.2 _ c at_last⟩
theorem free_last {A : Nat → Prop} {w1 : va_W} {c : Nat × va_E} {H0 H : Heap} {locs : List Loc} (hD : va_D A (w1 ++ [c])) (hS : va_S A H0 H locs) (hA : ∀ q, H0.size ≤ q → A q) : ∀ q, va_A [c] H.size q → A q := by
  intro q h
  rcases h with ⟨k, e, h⟩ | h
  · have := (one_at h).2
    have g := hD.2 _ c at_last
    rw [← this] at g
    exact g
  · exact hA q (Nat.le_trans hS.1 h)
theorem join_last {A : Nat → Prop} {D : va_G} {cl : List vw_C} {wx w1 : va_W} {c : Nat × va_E} {H H1 : Heap} (hP : va_P D cl (wx ++ [c]) H) (hD : va_D A (wx ++ [c])) (hk : ∀ q : Nat, q < H.size → ¬ va_A [c] H.size q → H1[q]? = H[q]?) (hF : ∀ q, va_A [c] H.size q → A q) (hP1 : va_P D cl w1 H1) (hD1 : va_D (va_A [c] H.size) w1) : va_P D cl wx H1 ∧ va_P D cl w1 H1 ∧ va_D A (wx ++ w1) := by
  have apart : ∀ (k : Nat) (q : Nat × va_E), wx[k]? = some q → q.1 < H.size ∧ ¬ va_A [c] H.size q.1 := by
    intro k q hq
    have hl := (hP k q (at_left hq).1).lt
    refine ⟨hl, fun h => ?_⟩
    rcases h with ⟨k2, e, h⟩ | h
    · have e2 := (one_at h).2
      have e3 := hD.1 k wx.length q c (at_left hq).1 at_last (by rw [← e2])
      have := (at_left (w2 := [c]) hq).2
      omega
    · omega
  refine ⟨fun k q hq => (hP k q (at_left hq).1).kept (hk q.1 (apart k q hq).1 (apart k q hq).2), hP1, va_D.app (D_left hD) (hD1.weaken (fun k q _ h => hF q.1 h)) (fun i j x y hx hy hxy => ?_)⟩
  exact (apart i x hx).2 (by rw [hxy]; exact hD1.2 j y hy)
set_option maxHeartbeats 4000000 in
set_option maxRecDepth 100000 in
theorem law_enter {p : Program} {l : Launch} {e : Env} {s : State} {m : MethodId} {below : List Frame} {meth : Method} {c : Code} {A : Nat → Prop} {kA vA : Nat → Nat} {dC : Nat → ClassId} {dI : Nat → Nat → Nat} {b : Nat} {xs : Nat → Int32} {L : Nat} (hL : L ≤ 3072) (C0 : lw_At p s m meth c b L xs) (hA : ∀ p : Nat, s.heap.size ≤ p → A p) (hAq : ∀ p : Nat, A p → s.heap.size ≤ p) (hE : xE s) (hT : xT kA vA A s s.heap) (hK : va_K (dC, dI) classes [] s) {H : Heap} (hP : va_P (dC, dI) classes [] H) (hD : va_D A []) (hS : va_S A s.heap H []) {ls : Array Slot} (hl : lv_has ls 4 [(0, .ref b)]) : W p l e room_1 s m #[Value.ref b] below meth c H [] 0 0 (lw_Z below #[Value.ref b] s) (F0 m 0 ls []) := by
  obtain ⟨hx, hb, hr, hml, hown, hts, hXs, hbl, hlocks, hgv⟩ := id C0
  have hown : s.vm.findClass RL = some m.cls := hown
  have hq : ∀ w ∈ wsA, w.before _ s = true := fun w h => hts w (List.mem_filter.mp h).1
  have hbA : ¬ A b := fun h => Nat.not_le.mpr hbl (hAq b h)
  refine va_new (ci := 11) (fs := [.null, .int 0, .null, .null, .null, .int 0, .int 0, .null, .null, .null, .null, .null, .null, .null, .null, .null, .null, .null, .int 0]) (C := RX11) (T := TX11) (N := 19) hx hb hq inX11 tyX11 tyX11_ok hown (hq _ qw_139) (hq _ qw_140) (hq _ qw_119) hK hP hD hS hA rfl (dfl_ok rfl) (Nat.le_of_ble_eq_true rfl) (Nat.le_of_ble_eq_true rfl) dL_law_0 (fun q_1 H hP hD hS => ?_)
  have hP : va_P (dC, dI) classes [(q_1, .inr (11, [.null, .int 0, .null, .null, .null, .int 0, .int 0, .null, .null, .null, .null, .null, .null, .null, .null, .null, .null, .null, .int 0]))] H := hP
  have hD : va_D A [(q_1, .inr (11, [.null, .int 0, .null, .null, .null, .int 0, .int 0, .null, .null, .null, .null, .null, .null, .null, .null, .null, .null, .null, .int 0]))] := hD
  refine W.widen (k := 1) (n := 19) (Nat.le_of_ble_eq_true rfl) (Nat.le_of_ble_eq_true rfl) ?_
  refine lv_dup hx hb dL_law_3 rfl ?_
  have hPc := hP.sub (ws' := [(q_1, .inr (11, [.null, .int 0, .null, .null, .null, .int 0, .int 0, .null, .null, .null, .null, .null, .null, .null, .null, .null, .null, .null, .int 0]))]) [0] rfl
  have hDc := hD.sub (ws' := [(q_1, .inr (11, [.null, .int 0, .null, .null, .null, .int 0, .int 0, .null, .null, .null, .null, .null, .null, .null, .null, .null, .null, .null, .int 0]))]) [0] (by decide) rfl
  have hKc := hK.sub (tys' := []) [] rfl
  have hFc := va_free (wc := [(q_1, .inr (11, [.null, .int 0, .null, .null, .null, .int 0, .int 0, .null, .null, .null, .null, .null, .null, .null, .null, .null, .null, .null, .int 0]))]) hD hS hA [0] rfl
  refine va_callv (va_runI (As := []) (rest := [.ref q_1]) ⟨hx, hb, hml, hown, hq⟩ (X_new l dC dI _ q_1) (cwI 0 hq (gC qw_143) rfl rfl rfl (hq _ qw_119) (hq _ qw_141) (hq _ qw_142) rfl (by decide +kernel) ⟨Nat.le_of_ble_eq_true rfl, Nat.le_of_ble_eq_true rfl⟩) ⟨fun ar U g mk h => by obtain ⟨q0, q1, qP, qK, qD, qE⟩ := h; exact ⟨q0, q1, qP, va_K.moved (u := U) (U := U.calling g mk ar) (Vm.Alike.refl U.vm) qK, qD, xE.same rfl qE⟩, fun U hU hW => ⟨rfl, by rw [hU], by rw [hU]; exact hPc, va_K.moved hW.alike hKc, hDc.weaken (fun _ _ _ _ => trivial), xE.warm hW hE⟩⟩ rfl rfl hl.1 rfl (lv_room (Nat.le_of_ble_eq_true rfl)) dL_law_4 ⟨Nat.le_of_ble_eq_true rfl, Nat.le_of_ble_eq_true rfl⟩) hS (fun p _ h => hFc p h) hFc (fun u t H1 locs ht hvm hw hB hz1 hk1 hS => ?_)
  obtain ⟨a, k, q, v, z, w, f, g, ⟨ea, hQ, hI⟩, hP1, hK1, hD1⟩ := hB
  subst ea
  rw [ht] at hP1
  have hKx := va_K.moved hvm.symm hK1
  obtain ⟨hP, hD⟩ := va_join (wr := []) (w1 := xW a k q v z w f g) hP hD [0] [] rfl rfl (by decide) (by decide) hk1 hFc hP1 hD1
  have hP : va_P (dC, dI) classes (xW a k q v z w f g) H1 := hP
  have hD : va_D A (xW a k q v z w f g) := hD
  generalize H1 = H at hP hS ⊢
  refine W.widen (k := 130) (n := 4120) (Nat.le_of_ble_eq_true rfl) (Nat.le_of_ble_eq_true rfl) ?_
  refine lv_astore_n (lv' := [(1, .ref (a 0)), (0, .ref b)]) hx hb dL_law_7 rfl hl (by decide) rfl (fun ls hl => ?_)
  refine va_new (ci := 12) (fs := [.null, .int 0, .int 0, .null, .null, .null, .null, .null, .int 0, .int 0, .int 0, .int 0, .int 0, .int 0, .int 0, .null, .int 0, .null, .int 0, .null, .null, .int 0, .int 0, .int 0, .int 0, .int 0, .int 0, .null, .int 0, .null, .null, .null, .int 0, .int 0, .int 0, .null, .null, .null, .long 0, .null, .null, .null, .null]) (C := RX12) (T := TX12) (N := 43) hx hb hq inX12 tyX12 tyX12_ok hown (hq _ qw_1154) (hq _ qw_1155) (hq _ qw_131) hK hP hD hS hA rfl (dfl_ok rfl) (Nat.le_of_ble_eq_true rfl) (Nat.le_of_ble_eq_true rfl) dL_law_8 (fun q_5 H hP hD hS => ?_)
  have hP : va_P (dC, dI) classes (xW a k q v z w f g ++ [(q_5, .inr (12, [.null, .int 0, .int 0, .null, .null, .null, .null, .null, .int 0, .int 0, .int 0, .int 0, .int 0, .int 0, .int 0, .null, .int 0, .null, .int 0, .null, .null, .int 0, .int 0, .int 0, .int 0, .int 0, .int 0, .null, .int 0, .null, .null, .null, .int 0, .int 0, .int 0, .null, .null, .null, .long 0, .null, .null, .null, .null]))]) H := hP
  have hD : va_D A (xW a k q v z w f g ++ [(q_5, .inr (12, [.null, .int 0, .int 0, .null, .null, .null, .null, .null, .int 0, .int 0, .int 0, .int 0, .int 0, .int 0, .int 0, .null, .int 0, .null, .int 0, .null, .null, .int 0, .int 0, .int 0, .int 0, .int 0, .int 0, .null, .int 0, .null, .null, .null, .int 0, .int 0, .int 0, .null, .null, .null, .long 0, .null, .null, .null, .null]))]) := hD
  refine W.widen (k := 131) (n := 4163) (Nat.le_of_ble_eq_true rfl) (Nat.le_of_ble_eq_true rfl) ?_
  refine lv_dup hx hb dL_law_11 rfl ?_
  have hPc := (P_app hP).2
  have hDc := D_last hD
  have hKc := hK.sub (tys' := []) [] rfl
  have hFc := free_last hD hS hA
  refine va_callv (va_runI (As := []) (rest := [.ref q_5]) ⟨hx, hb, hml, hown, hq⟩ (M_new l dC dI _ q_5) (cwI 0 hq (gC qw_1158) rfl rfl rfl (hq _ qw_131) (hq _ qw_1156) (hq _ qw_1157) rfl (by decide +kernel) ⟨Nat.le_of_ble_eq_true rfl, Nat.le_of_ble_eq_true rfl⟩) ⟨fun ar U g mk h => by obtain ⟨q0, q1, qP, qK, qD, qE⟩ := h; exact ⟨q0, q1, qP, va_K.moved (u := U) (U := U.calling g mk ar) (Vm.Alike.refl U.vm) qK, qD, xE.same rfl qE⟩, fun U hU hW => ⟨rfl, by rw [hU], by rw [hU]; exact hPc, va_K.moved hW.alike hKc, hDc.weaken (fun _ _ _ _ => trivial), xE.warm hW hE⟩⟩ rfl rfl hl.1 rfl (lv_room (Nat.le_of_ble_eq_true rfl)) dL_law_12 ⟨Nat.le_of_ble_eq_true rfl, Nat.le_of_ble_eq_true rfl⟩) hS (fun p _ h => hFc p h) hFc (fun u t H1 locs ht hvm hw hB hz1 hk1 hS => ?_)
  obtain ⟨a2, k2, q2, v2, z2, w2, f2, g2, ⟨ea, hI2⟩, hP1, hK1, hD1⟩ := hB
  subst ea
  rw [ht] at hP1
  have hKm := va_K.moved hvm.symm hK1
  obtain ⟨hPx, hPm, hD⟩ := join_last hP hD hk1 hFc hP1 hD1
  have hN := AD.of hD
  rw [List.map_append, xW_L, mW_L] at hN
  obtain ⟨hNx, hNm, hdx, hdm⟩ := hN.app
  refine W.widen (k := 152) (n := 8829) (Nat.le_of_ble_eq_true rfl) (Nat.le_of_ble_eq_true rfl) ?_
  refine lv_astore_n (lv' := [(2, .ref (a2 0)), (1, .ref (a 0)), (0, .ref b)]) hx hb dL_law_15 rfl hl (by decide) rfl (fun ls hl => ?_)
  refine lv_iconst (v := 0) hx hb dL_law_16 (by decide) ?_
  refine lv_istore_n (lv' := [(3, .int 0), (2, .ref (a2 0)), (1, .ref (a 0)), (0, .ref b)]) hx hb dL_law_17 rfl hl (by decide) rfl (fun ls hl => ?_)
  exact law_head ⟨C0, hL, hA, hAq, hE, hT, hQ, hNx, hNm, hdx, hdm, hKx, hKm⟩ (md := fun _ => 0) (ix := fun _ => 0) (x := 0) (fun _ _ => Or.inl rfl) ⟨v, z, w, f, g, hI, hPx⟩ ⟨v2, z2, w2, f2, g2, hI2, hPm⟩ hS (i := 0) ⟨by decide, by decide⟩ hl
