set_option maxHeartbeats 4000000 in
set_option maxRecDepth 100000 in
/-- THE LAW, from its entry -/
theorem whole_start {p : Program} {e : Env} {s : State} {m : MethodId} {below : List Frame} {meth : Method} {c : Code} (l : Launch) (hst : l.stackTraces = false) {b L : Nat} {xs : Nat → Int32} (hL : L ≤ 2560) (C0 : lw_At p s m meth c b L xs) : W p l e room_1 s m #[Value.ref b] below meth c s.heap [] 0 0 (lw_Z below #[Value.ref b] s) (entryFrame m ([Value.ref b] : List Value).toArray 7) := by
  obtain ⟨hx, hb, hr, hml, hown, hts, hX, hbl, hlocks, hgv⟩ := id C0
  have hb : c.code = cL_law := hb
  have hE : ZxE (ZF s) s := zE_start hts hgv
  have hA : ∀ q : Nat, s.heap.size ≤ q → ZF s q := fun _ h => h
  obtain ⟨c0, iS0, hKn0⟩ := u_known (C := RX0) (T := TX0) (N := 10) (n := 10) hts zin_wsX00 (hts (.instantiable RX0 10) (zT1 (i := 10) rfl))
  obtain ⟨c1, iS1, hKn1⟩ := u_known (C := RX1) (T := TX1) (N := 17) (n := 17) hts zin_wsX10 (hts (.instantiable RX1 17) (zT2 (i := 71) rfl))
  obtain ⟨D, hKc⟩ : ∃ D : va_G, ∀ (k : Nat) (q : vw_C), vwCl[k]? = some q → u_Kn s q.1 q.2.1 q.2.2 (D.1 k) (D.2 k) := by
    refine ⟨(fun k => if k = 0 then c0 else c1, fun k => if k = 0 then iS0 else iS1), ?_⟩
    intro k q hq
    match k, hq with
    | 0, hq => cases hq; exact hKn0
    | 1, hq => cases hq; exact hKn1
    | k + 2, hq => simp [vwCl] at hq
  have hS : va_S (ZF s) s.heap s.heap [] := va_S.rf
  have hK : va_K D vwCl [] s := ⟨hKc, fun k q h => by simp at h⟩
  have hP : va_P D vwCl [] s.heap := fun k q h => by simp at h
  have hD : va_D (ZF s) [] := ⟨fun i j p q h => by simp at h, fun k q h => by simp at h⟩
  have hl := lv_entry ([.ref b]) (n := 7) (Nat.le_of_ble_eq_true rfl)
  rw [lg_entry_eq]
  generalize (lg_sl ([.ref b]) ++ List.replicate (7 - (lg_sl ([.ref b])).length) Slot.unset).toArray = ls at hl ⊢
  have hl : lv_has ls 7 [(0, .ref b)] := hl
  refine va_new (D := D) (ci := 0) (fs := [.null, .null, .int 0, .int 0, .int 0, .int 0, .int 0, .int 0, .int 0, .int 0]) (C := RX0) (T := TX0) (N := 10) hx hb hts zin_wsX00 tyX0 tyX0_ok hown (hts (.classLink RL 8 RX0) (zT1 (i := 9) rfl)) (hts (.instantiable RX0 10) (zT1 (i := 10) rfl)) (hts (.initialized RX0) (zT1 (i := 1) rfl)) hK hP hD hS hA rfl (fun j hj => by rcases (show j = 0 ∨ j = 1 ∨ j = 2 ∨ j = 3 ∨ j = 4 ∨ j = 5 ∨ j = 6 ∨ j = 7 ∨ j = 8 ∨ j = 9 by omega) with rfl | rfl | rfl | rfl | rfl | rfl | rfl | rfl | rfl | rfl <;> rfl) (by decide) (by decide) dL_law_0 (fun qX H hP hD hS => ?_)
  have hP : va_P D vwCl (([] : va_W) ++ zw0X0 qX) H := hP
  have hD : va_D (ZF s) (([] : va_W) ++ zw0X0 qX) := hD
  refine lv_dup hx hb dL_law_3 rfl ?_
  have hPc := hP.sub (ws' := zw0X0 qX) [0] rfl
  have hDc := hD.sub (ws' := zw0X0 qX) [0] (by decide) rfl
  have hFc := va_free (wc := zw0X0 qX) hD hS hA [0] rfl
  refine va_callv (va_runI (As := []) (rest := [.ref qX]) ⟨hx, hb, hml, hown, hts⟩ (zxM_init l D qX H.size) (cwI 0 hts zg_X0_init rfl rfl rfl (hts (.initialized RX0) (zT1 (i := 1) rfl)) (hts (.methodLink RL 32 yX0_init) (zT1 (i := 11) rfl)) (hts (.instanceMethod yX0_init) (zT1 (i := 12) rfl)) rfl (by decide +kernel) (by decide)) ⟨fun a U g mk q => by obtain ⟨q0, q1, qP, qK, qD⟩ := q; exact ⟨q0, q1, qP, va_K.moved (u := U) (U := U.calling g mk a) (Vm.Alike.refl U.vm) qK, qD⟩, fun U hU hW => ⟨rfl, by rw [hU], by rw [hU]; exact hPc, va_K.moved hW.alike hK, hDc.weaken (fun _ _ _ _ => trivial)⟩⟩ rfl rfl hl.1 rfl (lv_room (Nat.le_of_ble_eq_true rfl)) dL_law_4 (by decide)) hS (fun q _ h => hFc q h) hFc (fun kkX0 t H1 locs ht hvm _ hB hz1 hk1 hS => ?_)
  obtain ⟨hP1, hK1, hD1⟩ := hB
  rw [ht] at hP1
  have hKX0 : ZxK (D, qX, kkX0) s := va_K.moved hvm.symm hK1
  obtain ⟨hP, hD⟩ := va_join (wr := ([] : va_W)) (w1 := ZxW (D, qX, kkX0) zx0) hP hD [0] [] rfl rfl (by decide) (by decide) hk1 hFc hP1 hD1
  generalize H1 = H at hP hS ⊢
  refine lv_astore_n (lv' := [(1, .ref qX), (0, .ref b)]) hx hb dL_law_7 rfl hl (by decide) rfl (fun ls hl => ?_)
  have hP : va_P D vwCl (ZxW (D, qX, kkX0) zx0) H := hP
  have hD : va_D (ZF s) (ZxW (D, qX, kkX0) zx0) := hD
  refine va_new (D := D) (ci := 1) (fs := [.int 0, .null, .null, .int 0, .int 0, .int 0, .int 0, .int 0, .int 0, .int 0, .int 0, .int 0, .int 0, .int 0, .int 0, .null, .null]) (C := RX1) (T := TX1) (N := 17) hx hb hts zin_wsX10 tyX1 tyX1_ok hown (hts (.classLink RL 33 RX1) (zT2 (i := 70) rfl)) (hts (.instantiable RX1 17) (zT2 (i := 71) rfl)) (hts (.initialized RX1) (zT1 (i := 2) rfl)) hK hP hD hS hA rfl (fun j hj => by rcases (show j = 0 ∨ j = 1 ∨ j = 2 ∨ j = 3 ∨ j = 4 ∨ j = 5 ∨ j = 6 ∨ j = 7 ∨ j = 8 ∨ j = 9 ∨ j = 10 ∨ j = 11 ∨ j = 12 ∨ j = 13 ∨ j = 14 ∨ j = 15 ∨ j = 16 by omega) with rfl | rfl | rfl | rfl | rfl | rfl | rfl | rfl | rfl | rfl | rfl | rfl | rfl | rfl | rfl | rfl | rfl <;> rfl) (by decide) (by decide) dL_law_8 (fun qT H hP hD hS => ?_)
  have hP : va_P D vwCl (ZxW (D, qX, kkX0) zx0 ++ zw0X1 qT) H := hP
  have hD : va_D (ZF s) (ZxW (D, qX, kkX0) zx0 ++ zw0X1 qT) := hD
  refine lv_dup hx hb dL_law_11 rfl ?_
  have hPc := hP.sub (ws' := zw0X1 qT) [3] rfl
  have hDc := hD.sub (ws' := zw0X1 qT) [3] (by decide) rfl
  have hFc := va_free (wc := zw0X1 qT) hD hS hA [3] rfl
  refine va_callv (va_runI (As := []) (rest := [.ref qT]) ⟨hx, hb, hml, hown, hts⟩ (ztM_init l D qT H.size) (cwI 0 hts zg_X1_init rfl rfl rfl (hts (.initialized RX1) (zT1 (i := 2) rfl)) (hts (.methodLink RL 35 yX1_init) (zT2 (i := 72) rfl)) (hts (.instanceMethod yX1_init) (zT2 (i := 73) rfl)) rfl (by decide +kernel) (by decide)) ⟨fun a U g mk q => by obtain ⟨q0, q1, qP, qK, qD⟩ := q; exact ⟨q0, q1, qP, va_K.moved (u := U) (U := U.calling g mk a) (Vm.Alike.refl U.vm) qK, qD⟩, fun U hU hW => ⟨rfl, by rw [hU], by rw [hU]; exact hPc, va_K.moved hW.alike hK, hDc.weaken (fun _ _ _ _ => trivial)⟩⟩ rfl rfl hl.1 rfl (lv_room (Nat.le_of_ble_eq_true rfl)) dL_law_12 (by decide)) hS (fun q _ h => hFc q h) hFc (fun kkX1 t H1 locs ht hvm _ hB hz1 hk1 hS => ?_)
  obtain ⟨hP1, hK1, hD1⟩ := hB
  rw [ht] at hP1
  have hKX1 : ZtK (D, qT, kkX1) s := va_K.moved hvm.symm hK1
  obtain ⟨hP, hD⟩ := va_join (wr := ZxW (D, qX, kkX0) zx0) (w1 := ZtW (D, qT, kkX1) zt0) hP hD [3] [0, 1, 2] rfl rfl (by decide) (by decide) hk1 hFc hP1 hD1
  generalize H1 = H at hP hS ⊢
  refine lv_astore_n (lv' := [(2, .ref qT), (1, .ref qX), (0, .ref b)]) hx hb dL_law_15 rfl hl (by decide) rfl (fun ls hl => ?_)
  refine lv_iconst (v := 1) hx hb dL_law_16 (by decide) ?_
  refine va_newa (atype := .long) (ty := .long) (N' := 1) (a0 := (1, .inr (.inl (fun _ => 0)))) hx hb (hts (.arrayClass .long) (zT2 (i := 230) rfl)) rfl hK hP hD hS hA (fun _ => rfl) (by decide) (by decide) (by decide) (by decide) (by decide) dL_law_17 (fun aJ cJ H hKJ hP hD hS => ?_)
  refine lv_astore_n (lv' := [(3, .ref aJ), (2, .ref qT), (1, .ref qX), (0, .ref b)]) hx hb dL_law_19 rfl hl (by decide) rfl (fun ls hl => ?_)
  refine lv_iconst (v := 0) hx hb dL_law_20 (by decide) ?_
  refine lv_istore (lv' := [(4, .int 0), (3, .ref aJ), (2, .ref qT), (1, .ref qX), (0, .ref b)]) hx hb dL_law_21 hl (by decide) rfl (fun ls hl => ?_)
  refine W.widen (k := 9 + 0) (n := 1580 + 6 * 0) (by decide) (by decide) ?_
  have hN := z_NDof hD
  have hN : ((ZxL (D, qX, kkX0) ++ ZtL (D, qT, kkX1)) ++ [aJ]).Nodup := hN
  have hM : ∀ q ∈ (ZxL (D, qX, kkX0) ++ ZtL (D, qT, kkX1)) ++ [aJ], ZF s q := fun q hq => by
    obtain ⟨x, hx1, rfl⟩ := List.mem_map.mp (show q ∈ ((ZxW (D, qX, kkX0) zx0 ++ ZtW (D, qT, kkX1) zt0) ++ zJW aJ cJ (fun _ => 0)).map Prod.fst from hq)
    obtain ⟨j, hj⟩ := List.mem_iff_getElem?.mp hx1
    exact hD.2 j x hj
  obtain ⟨n1, -, n2⟩ := List.nodup_append.mp hN
  obtain ⟨n3, n4, n5⟩ := List.nodup_append.mp n1
  have hJx : ¬ ZxA (D, qX, kkX0) aJ := fun h => n2 aJ (List.mem_append_left _ h) aJ List.mem_cons_self rfl
  have hJt : ¬ ZtA (D, qT, kkX1) aJ := fun h => n2 aJ (List.mem_append_right _ h) aJ List.mem_cons_self rfl
  have Z : Zlaw s (D, qX, kkX0) (D, qT, kkX1) aJ cJ := ⟨hKX0, hKX1, hKJ, n3, n4, fun q h g => g.elim (fun g => n5 q g q h rfl) (fun g => hJt (g ▸ h)), fun q h g => n5 q h q g rfl, hJt, hJx, fun q g => g.elim (fun g => hM q (List.mem_append_left _ (List.mem_append_left _ g))) (fun g => hM q (by rw [g]; exact List.mem_append_right _ List.mem_cons_self)), fun q g => hM q (List.mem_append_left _ (List.mem_append_right _ g)), hE⟩
  exact law_loop hst hL C0 Z L 0 zx0 zt0 (fun _ => 0) H _ ls (by decide) (by omega) zc_0.1 zc_0.2 ⟨hP.sub [0, 1, 2] rfl, hP.sub [3, 4, 5, 6, 7] rfl, hP.sub [8] rfl⟩ hS (lv_sub hl [4, 3, 2, 1, 0] rfl)
