theorem z_NDof {A : Nat → Prop} {ws : va_W} (h : va_D A ws) : (ws.map Prod.fst).Nodup := by
  refine List.pairwise_iff_getElem.mpr (fun i j hi hj hij e => ?_)
  rw [List.length_map] at hi hj
  rw [List.getElem_map, List.getElem_map] at e
  exact absurd (h.1 i j _ _ (List.getElem?_eq_getElem hi) (List.getElem?_eq_getElem hj) e) (Nat.ne_of_lt hij)
def zw0X0 (h0 : Nat) : va_W := [(h0, .inr (0, [.null, .null, .int 0, .int 0, .int 0, .int 0, .int 0, .int 0, .int 0, .int 0]))]
def zx0 : Zxs := (fun _ => 0, fun _ => 0, 0, 0, 0, 0, 0, 0, 0, 0)
def Zxat (D : va_G) (A : Nat → Prop) (h0 : Nat) (k : Nat × Nat × ClassId × ClassId) (t : State) : Prop := va_P D vwCl (ZxW (D, h0, k) zx0) t.heap ∧ va_K D vwCl (ZxT (D, h0, k)) t ∧ va_D A (ZxW (D, h0, k) zx0)
set_option maxHeartbeats 4000000 in
set_option maxRecDepth 100000 in
theorem zxM_init (l : Launch) (D : va_G) (h0 sz : Nat) : Met l yX0_init wsX0_init { frames := 1, cells := 2, slots := 768, locals := 12 } (va_Pc [.ref h0] (fun U => U.heap.size = sz ∧ va_P D vwCl (zw0X0 h0) U.heap ∧ va_K D vwCl [] U ∧ va_D (fun _ => True) (zw0X0 h0))) (va_Qv (fun _ : Nat × Nat × ClassId × ClassId => True) (Zxat D (va_A (zw0X0 h0) sz) h0) (va_A (zw0X0 h0) sz)) 2 768 (va_A (zw0X0 h0) sz) := by
  refine Met.ofW (cc := cX0_init) (maxL := 1) (ret := none) (by decide) rfl ?_
  intro p e s m args below meth c s₁ B hml hv
  obtain ⟨rfl, hsz, hP, hK, hD0⟩ := hv
  have hx := B.exec
  have hb := B.bytes
  have hr := B.returns
  have hts := atoms_spec (ws := wsX0_init) B.pre
  have hown : s.vm.findClass RX0 = some m.cls := findClass_of_methodNamed B.named
  have hlocks := B.notSynchronized
  have hin : meth.name = "<init>" := (name_of_methodNamed B.named B.method).1
  subst hsz
  have hD := hD0.self (sz := s.heap.size)
  generalize hAe : va_A (zw0X0 h0) s.heap.size = A at hD ⊢
  have hA : ∀ q : Nat, s.heap.size ≤ q → A q := fun q h => by rw [← hAe]; exact Or.inr h
  have hS : va_S A s.heap s.heap [] := va_S.rf
  have hfld : ∀ w ∈ u_ws RX0 TX0 10, w ∈ wsX0_init := fun _ h => List.mem_cons_of_mem _ (List.mem_append_right _ h)
  have hl := lv_entry ([.ref h0]) (n := 1) (Nat.le_of_ble_eq_true rfl)
  rw [lg_entry_eq]
  generalize (lg_sl ([.ref h0]) ++ List.replicate (1 - (lg_sl ([.ref h0])).length) Slot.unset).toArray = ls at hl ⊢
  have hl : lv_has ls 1 [(0, .ref h0)] := hl
  have hP : va_P D vwCl [(h0, .inr (0, [.null, .null, .int 0, .int 0, .int 0, .int 0, .int 0, .int 0, .int 0, .int 0]))] s.heap := hP
  have hD : va_D A [(h0, .inr (0, [.null, .null, .int 0, .int 0, .int 0, .int 0, .int 0, .int 0, .int 0, .int 0]))] := hD
  refine lv_aload_n hx hb dX0_init_0 rfl (lv_at hl 0 rfl) ?_
  refine W.objInit hx hb hown (hts _ (List.mem_cons_of_mem _ (List.mem_append_left _ (List.mem_of_getElem? (i := 0) rfl)))) (hts _ (List.mem_cons_of_mem _ (List.mem_append_left _ (List.mem_of_getElem? (i := 1) rfl)))) (hts _ (List.mem_cons_of_mem _ (List.mem_append_left _ (List.mem_of_getElem? (i := 2) rfl)))) rfl (by rw [hml]; exact hl.1) rfl dX0_init_1 (Nat.le_of_ble_eq_true rfl) (Nat.le_of_ble_eq_true rfl) ?_
  refine W.eq (g2 := F0 m 4 ls []) rfl ?_
  refine lv_aload_n hx hb dX0_init_4 rfl (lv_at hl 0 rfl) ?_
  refine lv_sipush (v := 256) hx hb dX0_init_5 (by decide) ?_
  refine va_newa (ty := .int) (N' := 256) (a0 := (256, .inl (fun _ => 0))) hx hb (hts _ (List.mem_cons_of_mem _ (List.mem_append_left _ (List.mem_of_getElem? (i := 3) rfl)))) rfl hK hP hD hS hA (fun _ => rfl) (by decide) (by decide) (by decide) (Nat.le_of_ble_eq_true rfl) (Nat.le_of_ble_eq_true rfl) dX0_init_8 (fun qwords cwords H hK hP hD hS => ?_)
  have hP : va_P D vwCl [(h0, .inr (0, [.null, .null, .int 0, .int 0, .int 0, .int 0, .int 0, .int 0, .int 0, .int 0])), (qwords, .inl (cwords, 256, .inl (fun _ => 0)))] _ := hP
  have hD : va_D A [(h0, .inr (0, [.null, .null, .int 0, .int 0, .int 0, .int 0, .int 0, .int 0, .int 0, .int 0])), (qwords, .inl (cwords, 256, .inl (fun _ => 0)))] := hD
  refine va_putF (D := D) (ci := 0) (v := .ref qwords) (ty := .array .int) (C := RX0) (T := TX0) (N := 10) hx hb hts hfld tyX0 tyX0_ok nmX0 hown hK hP hD hS 0 rfl rfl 0 (by decide) (hts _ (List.mem_cons_of_mem _ (List.mem_append_left _ (List.mem_of_getElem? (i := 4) rfl)))) (fun _ h9 => h9) rfl hin rfl (by decide +kernel) rfl rfl (Nat.le_of_ble_eq_true rfl) dX0_init_10 (fun H locs hP hD hS => ?_)
  have hP : va_P D vwCl [(h0, .inr (0, [.ref qwords, .null, .int 0, .int 0, .int 0, .int 0, .int 0, .int 0, .int 0, .int 0])), (qwords, .inl (cwords, 256, .inl (fun _ => 0)))] H := hP
  have hD : va_D A [(h0, .inr (0, [.ref qwords, .null, .int 0, .int 0, .int 0, .int 0, .int 0, .int 0, .int 0, .int 0])), (qwords, .inl (cwords, 256, .inl (fun _ => 0)))] := hD
  refine lv_aload_n hx hb dX0_init_13 rfl (lv_at hl 0 rfl) ?_
  refine lv_sipush (v := 512) hx hb dX0_init_14 (by decide) ?_
  refine va_newa (ty := .byte) (N' := 512) (a0 := (512, .inl (fun _ => 0))) hx hb (hts _ (List.mem_cons_of_mem _ (List.mem_append_left _ (List.mem_of_getElem? (i := 5) rfl)))) rfl hK hP hD hS hA (fun _ => rfl) (by decide) (by decide) (by decide) (Nat.le_of_ble_eq_true rfl) (Nat.le_of_ble_eq_true rfl) dX0_init_17 (fun qbytes cbytes H hK hP hD hS => ?_)
  have hP : va_P D vwCl [(h0, .inr (0, [.ref qwords, .null, .int 0, .int 0, .int 0, .int 0, .int 0, .int 0, .int 0, .int 0])), (qwords, .inl (cwords, 256, .inl (fun _ => 0))), (qbytes, .inl (cbytes, 512, .inl (fun _ => 0)))] _ := hP
  have hD : va_D A [(h0, .inr (0, [.ref qwords, .null, .int 0, .int 0, .int 0, .int 0, .int 0, .int 0, .int 0, .int 0])), (qwords, .inl (cwords, 256, .inl (fun _ => 0))), (qbytes, .inl (cbytes, 512, .inl (fun _ => 0)))] := hD
  refine va_putF (D := D) (ci := 0) (v := .ref qbytes) (ty := .array .byte) (C := RX0) (T := TX0) (N := 10) hx hb hts hfld tyX0 tyX0_ok nmX0 hown hK hP hD hS 0 rfl rfl 1 (by decide) (hts _ (List.mem_cons_of_mem _ (List.mem_append_left _ (List.mem_of_getElem? (i := 6) rfl)))) (fun _ h9 => h9) rfl hin rfl (by decide +kernel) rfl rfl (Nat.le_of_ble_eq_true rfl) dX0_init_19 (fun H locs hP hD hS => ?_)
  have hP : va_P D vwCl [(h0, .inr (0, [.ref qwords, .ref qbytes, .int 0, .int 0, .int 0, .int 0, .int 0, .int 0, .int 0, .int 0])), (qwords, .inl (cwords, 256, .inl (fun _ => 0))), (qbytes, .inl (cbytes, 512, .inl (fun _ => 0)))] H := hP
  have hD : va_D A [(h0, .inr (0, [.ref qwords, .ref qbytes, .int 0, .int 0, .int 0, .int 0, .int 0, .int 0, .int 0, .int 0])), (qwords, .inl (cwords, 256, .inl (fun _ => 0))), (qbytes, .inl (cbytes, 512, .inl (fun _ => 0)))] := hD
  refine lv_aload_n hx hb dX0_init_22 rfl (lv_at hl 0 rfl) ?_
  refine lv_iconst (v := 0) hx hb dX0_init_23 (by decide) ?_
  have hP : va_P D vwCl [(h0, .inr (0, [.ref qwords, .ref qbytes, .int 0, .int 0, .int 0, .int 0, .int 0, .int 0, .int 0, .int 0])), (qwords, .inl (cwords, 256, .inl (fun _ => 0))), (qbytes, .inl (cbytes, 512, .inl (fun _ => 0)))] _ := hP
  have hD : va_D A [(h0, .inr (0, [.ref qwords, .ref qbytes, .int 0, .int 0, .int 0, .int 0, .int 0, .int 0, .int 0, .int 0])), (qwords, .inl (cwords, 256, .inl (fun _ => 0))), (qbytes, .inl (cbytes, 512, .inl (fun _ => 0)))] := hD
  refine va_put (D := D) (ci := 0) (v := .int 0) (ty := .int) (C := RX0) (T := TX0) (N := 10) hx hb hts hfld tyX0 tyX0_ok nmX0 hown hK hP hD hS 0 rfl rfl 2 (by decide) (hts _ (List.mem_cons_of_mem _ (List.mem_append_left _ (List.mem_of_getElem? (i := 7) rfl)))) (fun _ h9 => h9) rfl (by decide +kernel) rfl rfl (Nat.le_of_ble_eq_true rfl) dX0_init_24 (fun H locs hP hD hS => ?_)
  have hP : va_P D vwCl [(h0, .inr (0, [.ref qwords, .ref qbytes, .int 0, .int 0, .int 0, .int 0, .int 0, .int 0, .int 0, .int 0])), (qwords, .inl (cwords, 256, .inl (fun _ => 0))), (qbytes, .inl (cbytes, 512, .inl (fun _ => 0)))] H := hP
  have hD : va_D A [(h0, .inr (0, [.ref qwords, .ref qbytes, .int 0, .int 0, .int 0, .int 0, .int 0, .int 0, .int 0, .int 0])), (qwords, .inl (cwords, 256, .inl (fun _ => 0))), (qbytes, .inl (cbytes, 512, .inl (fun _ => 0)))] := hD
  refine lv_aload_n hx hb dX0_init_27 rfl (lv_at hl 0 rfl) ?_
  refine lv_iconst (v := 0) hx hb dX0_init_28 (by decide) ?_
  have hP : va_P D vwCl [(h0, .inr (0, [.ref qwords, .ref qbytes, .int 0, .int 0, .int 0, .int 0, .int 0, .int 0, .int 0, .int 0])), (qwords, .inl (cwords, 256, .inl (fun _ => 0))), (qbytes, .inl (cbytes, 512, .inl (fun _ => 0)))] _ := hP
  have hD : va_D A [(h0, .inr (0, [.ref qwords, .ref qbytes, .int 0, .int 0, .int 0, .int 0, .int 0, .int 0, .int 0, .int 0])), (qwords, .inl (cwords, 256, .inl (fun _ => 0))), (qbytes, .inl (cbytes, 512, .inl (fun _ => 0)))] := hD
  refine va_put (D := D) (ci := 0) (v := .int 0) (ty := .int) (C := RX0) (T := TX0) (N := 10) hx hb hts hfld tyX0 tyX0_ok nmX0 hown hK hP hD hS 0 rfl rfl 3 (by decide) (hts _ (List.mem_cons_of_mem _ (List.mem_append_left _ (List.mem_of_getElem? (i := 8) rfl)))) (fun _ h9 => h9) rfl (by decide +kernel) rfl rfl (Nat.le_of_ble_eq_true rfl) dX0_init_29 (fun H locs hP hD hS => ?_)
  have hP : va_P D vwCl [(h0, .inr (0, [.ref qwords, .ref qbytes, .int 0, .int 0, .int 0, .int 0, .int 0, .int 0, .int 0, .int 0])), (qwords, .inl (cwords, 256, .inl (fun _ => 0))), (qbytes, .inl (cbytes, 512, .inl (fun _ => 0)))] H := hP
  have hD : va_D A [(h0, .inr (0, [.ref qwords, .ref qbytes, .int 0, .int 0, .int 0, .int 0, .int 0, .int 0, .int 0, .int 0])), (qwords, .inl (cwords, 256, .inl (fun _ => 0))), (qbytes, .inl (cbytes, 512, .inl (fun _ => 0)))] := hD
  refine lv_aload_n hx hb dX0_init_32 rfl (lv_at hl 0 rfl) ?_
  refine lv_iconst (v := 0) hx hb dX0_init_33 (by decide) ?_
  have hP : va_P D vwCl [(h0, .inr (0, [.ref qwords, .ref qbytes, .int 0, .int 0, .int 0, .int 0, .int 0, .int 0, .int 0, .int 0])), (qwords, .inl (cwords, 256, .inl (fun _ => 0))), (qbytes, .inl (cbytes, 512, .inl (fun _ => 0)))] _ := hP
  have hD : va_D A [(h0, .inr (0, [.ref qwords, .ref qbytes, .int 0, .int 0, .int 0, .int 0, .int 0, .int 0, .int 0, .int 0])), (qwords, .inl (cwords, 256, .inl (fun _ => 0))), (qbytes, .inl (cbytes, 512, .inl (fun _ => 0)))] := hD
  refine va_put (D := D) (ci := 0) (v := .int 0) (ty := .int) (C := RX0) (T := TX0) (N := 10) hx hb hts hfld tyX0 tyX0_ok nmX0 hown hK hP hD hS 0 rfl rfl 4 (by decide) (hts _ (List.mem_cons_of_mem _ (List.mem_append_left _ (List.mem_of_getElem? (i := 9) rfl)))) (fun _ h9 => h9) rfl (by decide +kernel) rfl rfl (Nat.le_of_ble_eq_true rfl) dX0_init_34 (fun H locs hP hD hS => ?_)
  have hP : va_P D vwCl [(h0, .inr (0, [.ref qwords, .ref qbytes, .int 0, .int 0, .int 0, .int 0, .int 0, .int 0, .int 0, .int 0])), (qwords, .inl (cwords, 256, .inl (fun _ => 0))), (qbytes, .inl (cbytes, 512, .inl (fun _ => 0)))] H := hP
  have hD : va_D A [(h0, .inr (0, [.ref qwords, .ref qbytes, .int 0, .int 0, .int 0, .int 0, .int 0, .int 0, .int 0, .int 0])), (qwords, .inl (cwords, 256, .inl (fun _ => 0))), (qbytes, .inl (cbytes, 512, .inl (fun _ => 0)))] := hD
  refine lv_aload_n hx hb dX0_init_37 rfl (lv_at hl 0 rfl) ?_
  refine lv_iconst (v := 0) hx hb dX0_init_38 (by decide) ?_
  have hP : va_P D vwCl [(h0, .inr (0, [.ref qwords, .ref qbytes, .int 0, .int 0, .int 0, .int 0, .int 0, .int 0, .int 0, .int 0])), (qwords, .inl (cwords, 256, .inl (fun _ => 0))), (qbytes, .inl (cbytes, 512, .inl (fun _ => 0)))] _ := hP
  have hD : va_D A [(h0, .inr (0, [.ref qwords, .ref qbytes, .int 0, .int 0, .int 0, .int 0, .int 0, .int 0, .int 0, .int 0])), (qwords, .inl (cwords, 256, .inl (fun _ => 0))), (qbytes, .inl (cbytes, 512, .inl (fun _ => 0)))] := hD
  refine va_put (D := D) (ci := 0) (v := .int 0) (ty := .int) (C := RX0) (T := TX0) (N := 10) hx hb hts hfld tyX0 tyX0_ok nmX0 hown hK hP hD hS 0 rfl rfl 5 (by decide) (hts _ (List.mem_cons_of_mem _ (List.mem_append_left _ (List.mem_of_getElem? (i := 10) rfl)))) (fun _ h9 => h9) rfl (by decide +kernel) rfl rfl (Nat.le_of_ble_eq_true rfl) dX0_init_39 (fun H locs hP hD hS => ?_)
  have hP : va_P D vwCl [(h0, .inr (0, [.ref qwords, .ref qbytes, .int 0, .int 0, .int 0, .int 0, .int 0, .int 0, .int 0, .int 0])), (qwords, .inl (cwords, 256, .inl (fun _ => 0))), (qbytes, .inl (cbytes, 512, .inl (fun _ => 0)))] H := hP
  have hD : va_D A [(h0, .inr (0, [.ref qwords, .ref qbytes, .int 0, .int 0, .int 0, .int 0, .int 0, .int 0, .int 0, .int 0])), (qwords, .inl (cwords, 256, .inl (fun _ => 0))), (qbytes, .inl (cbytes, 512, .inl (fun _ => 0)))] := hD
  refine lv_aload_n hx hb dX0_init_42 rfl (lv_at hl 0 rfl) ?_
  refine lv_iconst (v := 0) hx hb dX0_init_43 (by decide) ?_
  have hP : va_P D vwCl [(h0, .inr (0, [.ref qwords, .ref qbytes, .int 0, .int 0, .int 0, .int 0, .int 0, .int 0, .int 0, .int 0])), (qwords, .inl (cwords, 256, .inl (fun _ => 0))), (qbytes, .inl (cbytes, 512, .inl (fun _ => 0)))] _ := hP
  have hD : va_D A [(h0, .inr (0, [.ref qwords, .ref qbytes, .int 0, .int 0, .int 0, .int 0, .int 0, .int 0, .int 0, .int 0])), (qwords, .inl (cwords, 256, .inl (fun _ => 0))), (qbytes, .inl (cbytes, 512, .inl (fun _ => 0)))] := hD
  refine va_put (D := D) (ci := 0) (v := .int 0) (ty := .int) (C := RX0) (T := TX0) (N := 10) hx hb hts hfld tyX0 tyX0_ok nmX0 hown hK hP hD hS 0 rfl rfl 6 (by decide) (hts _ (List.mem_cons_of_mem _ (List.mem_append_left _ (List.mem_of_getElem? (i := 11) rfl)))) (fun _ h9 => h9) rfl (by decide +kernel) rfl rfl (Nat.le_of_ble_eq_true rfl) dX0_init_44 (fun H locs hP hD hS => ?_)
  have hP : va_P D vwCl [(h0, .inr (0, [.ref qwords, .ref qbytes, .int 0, .int 0, .int 0, .int 0, .int 0, .int 0, .int 0, .int 0])), (qwords, .inl (cwords, 256, .inl (fun _ => 0))), (qbytes, .inl (cbytes, 512, .inl (fun _ => 0)))] H := hP
  have hD : va_D A [(h0, .inr (0, [.ref qwords, .ref qbytes, .int 0, .int 0, .int 0, .int 0, .int 0, .int 0, .int 0, .int 0])), (qwords, .inl (cwords, 256, .inl (fun _ => 0))), (qbytes, .inl (cbytes, 512, .inl (fun _ => 0)))] := hD
  refine lv_aload_n hx hb dX0_init_47 rfl (lv_at hl 0 rfl) ?_
  refine lv_iconst (v := 0) hx hb dX0_init_48 (by decide) ?_
  have hP : va_P D vwCl [(h0, .inr (0, [.ref qwords, .ref qbytes, .int 0, .int 0, .int 0, .int 0, .int 0, .int 0, .int 0, .int 0])), (qwords, .inl (cwords, 256, .inl (fun _ => 0))), (qbytes, .inl (cbytes, 512, .inl (fun _ => 0)))] _ := hP
  have hD : va_D A [(h0, .inr (0, [.ref qwords, .ref qbytes, .int 0, .int 0, .int 0, .int 0, .int 0, .int 0, .int 0, .int 0])), (qwords, .inl (cwords, 256, .inl (fun _ => 0))), (qbytes, .inl (cbytes, 512, .inl (fun _ => 0)))] := hD
  refine va_put (D := D) (ci := 0) (v := .int 0) (ty := .int) (C := RX0) (T := TX0) (N := 10) hx hb hts hfld tyX0 tyX0_ok nmX0 hown hK hP hD hS 0 rfl rfl 7 (by decide) (hts _ (List.mem_cons_of_mem _ (List.mem_append_left _ (List.mem_of_getElem? (i := 12) rfl)))) (fun _ h9 => h9) rfl (by decide +kernel) rfl rfl (Nat.le_of_ble_eq_true rfl) dX0_init_49 (fun H locs hP hD hS => ?_)
  have hP : va_P D vwCl [(h0, .inr (0, [.ref qwords, .ref qbytes, .int 0, .int 0, .int 0, .int 0, .int 0, .int 0, .int 0, .int 0])), (qwords, .inl (cwords, 256, .inl (fun _ => 0))), (qbytes, .inl (cbytes, 512, .inl (fun _ => 0)))] H := hP
  have hD : va_D A [(h0, .inr (0, [.ref qwords, .ref qbytes, .int 0, .int 0, .int 0, .int 0, .int 0, .int 0, .int 0, .int 0])), (qwords, .inl (cwords, 256, .inl (fun _ => 0))), (qbytes, .inl (cbytes, 512, .inl (fun _ => 0)))] := hD
  refine lv_aload_n hx hb dX0_init_52 rfl (lv_at hl 0 rfl) ?_
  refine lv_iconst (v := 0) hx hb dX0_init_53 (by decide) ?_
  have hP : va_P D vwCl [(h0, .inr (0, [.ref qwords, .ref qbytes, .int 0, .int 0, .int 0, .int 0, .int 0, .int 0, .int 0, .int 0])), (qwords, .inl (cwords, 256, .inl (fun _ => 0))), (qbytes, .inl (cbytes, 512, .inl (fun _ => 0)))] _ := hP
  have hD : va_D A [(h0, .inr (0, [.ref qwords, .ref qbytes, .int 0, .int 0, .int 0, .int 0, .int 0, .int 0, .int 0, .int 0])), (qwords, .inl (cwords, 256, .inl (fun _ => 0))), (qbytes, .inl (cbytes, 512, .inl (fun _ => 0)))] := hD
  refine va_put (D := D) (ci := 0) (v := .int 0) (ty := .int) (C := RX0) (T := TX0) (N := 10) hx hb hts hfld tyX0 tyX0_ok nmX0 hown hK hP hD hS 0 rfl rfl 8 (by decide) (hts _ (List.mem_cons_of_mem _ (List.mem_append_left _ (List.mem_of_getElem? (i := 13) rfl)))) (fun _ h9 => h9) rfl (by decide +kernel) rfl rfl (Nat.le_of_ble_eq_true rfl) dX0_init_54 (fun H locs hP hD hS => ?_)
  have hP : va_P D vwCl [(h0, .inr (0, [.ref qwords, .ref qbytes, .int 0, .int 0, .int 0, .int 0, .int 0, .int 0, .int 0, .int 0])), (qwords, .inl (cwords, 256, .inl (fun _ => 0))), (qbytes, .inl (cbytes, 512, .inl (fun _ => 0)))] H := hP
  have hD : va_D A [(h0, .inr (0, [.ref qwords, .ref qbytes, .int 0, .int 0, .int 0, .int 0, .int 0, .int 0, .int 0, .int 0])), (qwords, .inl (cwords, 256, .inl (fun _ => 0))), (qbytes, .inl (cbytes, 512, .inl (fun _ => 0)))] := hD
  refine lv_aload_n hx hb dX0_init_57 rfl (lv_at hl 0 rfl) ?_
  refine lv_iconst (v := 0) hx hb dX0_init_58 (by decide) ?_
  have hP : va_P D vwCl [(h0, .inr (0, [.ref qwords, .ref qbytes, .int 0, .int 0, .int 0, .int 0, .int 0, .int 0, .int 0, .int 0])), (qwords, .inl (cwords, 256, .inl (fun _ => 0))), (qbytes, .inl (cbytes, 512, .inl (fun _ => 0)))] _ := hP
  have hD : va_D A [(h0, .inr (0, [.ref qwords, .ref qbytes, .int 0, .int 0, .int 0, .int 0, .int 0, .int 0, .int 0, .int 0])), (qwords, .inl (cwords, 256, .inl (fun _ => 0))), (qbytes, .inl (cbytes, 512, .inl (fun _ => 0)))] := hD
  refine va_put (D := D) (ci := 0) (v := .int 0) (ty := .int) (C := RX0) (T := TX0) (N := 10) hx hb hts hfld tyX0 tyX0_ok nmX0 hown hK hP hD hS 0 rfl rfl 9 (by decide) (hts _ (List.mem_cons_of_mem _ (List.mem_append_left _ (List.mem_of_getElem? (i := 14) rfl)))) (fun _ h9 => h9) rfl (by decide +kernel) rfl rfl (Nat.le_of_ble_eq_true rfl) dX0_init_59 (fun H locs hP hD hS => ?_)
  have hP : va_P D vwCl [(h0, .inr (0, [.ref qwords, .ref qbytes, .int 0, .int 0, .int 0, .int 0, .int 0, .int 0, .int 0, .int 0])), (qwords, .inl (cwords, 256, .inl (fun _ => 0))), (qbytes, .inl (cbytes, 512, .inl (fun _ => 0)))] H := hP
  have hD : va_D A [(h0, .inr (0, [.ref qwords, .ref qbytes, .int 0, .int 0, .int 0, .int 0, .int 0, .int 0, .int 0, .int 0])), (qwords, .inl (cwords, 256, .inl (fun _ => 0))), (qbytes, .inl (cbytes, 512, .inl (fun _ => 0)))] := hD
  exact W.vret hx hb hr (fun t ht hW => ⟨⟨(qwords, qbytes, cwords, cbytes), rfl, trivial, by rw [ht]; exact hP, va_K.moved hW.alike hK, hD⟩, hS.F ht⟩) hS.2.2 dX0_init_62 (hlocks := hlocks)
def zw0X1 (h0 : Nat) : va_W := [(h0, .inr (1, [.int 0, .null, .null, .int 0, .int 0, .int 0, .int 0, .int 0, .int 0, .int 0, .int 0, .int 0, .int 0, .int 0, .int 0, .null, .null]))]
def zt0 : Zts := (0, fun _ => 0, fun _ => 0, 0, 0, 0, 0, 0, 0, 0, 0, 0, 0, 0, 0, fun _ => 0, fun _ => 0)
def Ztat (D : va_G) (A : Nat → Prop) (h0 : Nat) (k : Nat × Nat × Nat × Nat × ClassId × ClassId × ClassId × ClassId) (t : State) : Prop := va_P D vwCl (ZtW (D, h0, k) zt0) t.heap ∧ va_K D vwCl (ZtT (D, h0, k)) t ∧ va_D A (ZtW (D, h0, k) zt0)
set_option maxHeartbeats 4000000 in
set_option maxRecDepth 100000 in
theorem ztM_init (l : Launch) (D : va_G) (h0 sz : Nat) : Met l yX1_init wsX1_init { frames := 1, cells := 4, slots := 784, locals := 12 } (va_Pc [.ref h0] (fun U => U.heap.size = sz ∧ va_P D vwCl (zw0X1 h0) U.heap ∧ va_K D vwCl [] U ∧ va_D (fun _ => True) (zw0X1 h0))) (va_Qv (fun _ : Nat × Nat × Nat × Nat × ClassId × ClassId × ClassId × ClassId => True) (Ztat D (va_A (zw0X1 h0) sz) h0) (va_A (zw0X1 h0) sz)) 4 784 (va_A (zw0X1 h0) sz) := by
  refine Met.ofW (cc := cX1_init) (maxL := 1) (ret := none) (by decide) rfl ?_
  intro p e s m args below meth c s₁ B hml hv
  obtain ⟨rfl, hsz, hP, hK, hD0⟩ := hv
  have hx := B.exec
  have hb := B.bytes
  have hr := B.returns
  have hts := atoms_spec (ws := wsX1_init) B.pre
  have hown : s.vm.findClass RX1 = some m.cls := findClass_of_methodNamed B.named
  have hlocks := B.notSynchronized
  have hin : meth.name = "<init>" := (name_of_methodNamed B.named B.method).1
  subst hsz
  have hD := hD0.self (sz := s.heap.size)
  generalize hAe : va_A (zw0X1 h0) s.heap.size = A at hD ⊢
  have hA : ∀ q : Nat, s.heap.size ≤ q → A q := fun q h => by rw [← hAe]; exact Or.inr h
  have hS : va_S A s.heap s.heap [] := va_S.rf
  have hfld : ∀ w ∈ u_ws RX1 TX1 17, w ∈ wsX1_init := fun _ h => List.mem_cons_of_mem _ (List.mem_append_right _ h)
  have hl := lv_entry ([.ref h0]) (n := 1) (Nat.le_of_ble_eq_true rfl)
  rw [lg_entry_eq]
  generalize (lg_sl ([.ref h0]) ++ List.replicate (1 - (lg_sl ([.ref h0])).length) Slot.unset).toArray = ls at hl ⊢
  have hl : lv_has ls 1 [(0, .ref h0)] := hl
  have hP : va_P D vwCl [(h0, .inr (1, [.int 0, .null, .null, .int 0, .int 0, .int 0, .int 0, .int 0, .int 0, .int 0, .int 0, .int 0, .int 0, .int 0, .int 0, .null, .null]))] s.heap := hP
  have hD : va_D A [(h0, .inr (1, [.int 0, .null, .null, .int 0, .int 0, .int 0, .int 0, .int 0, .int 0, .int 0, .int 0, .int 0, .int 0, .int 0, .int 0, .null, .null]))] := hD
  refine lv_aload_n hx hb dX1_init_0 rfl (lv_at hl 0 rfl) ?_
  refine W.objInit hx hb hown (hts _ (List.mem_cons_of_mem _ (List.mem_append_left _ (List.mem_of_getElem? (i := 0) rfl)))) (hts _ (List.mem_cons_of_mem _ (List.mem_append_left _ (List.mem_of_getElem? (i := 1) rfl)))) (hts _ (List.mem_cons_of_mem _ (List.mem_append_left _ (List.mem_of_getElem? (i := 2) rfl)))) rfl (by rw [hml]; exact hl.1) rfl dX1_init_1 (Nat.le_of_ble_eq_true rfl) (Nat.le_of_ble_eq_true rfl) ?_
  refine W.eq (g2 := F0 m 4 ls []) rfl ?_
  refine lv_aload_n hx hb dX1_init_4 rfl (lv_at hl 0 rfl) ?_
  refine lv_sipush (v := 256) hx hb dX1_init_5 (by decide) ?_
  refine va_newa (ty := .int) (N' := 256) (a0 := (256, .inl (fun _ => 0))) hx hb (hts _ (List.mem_cons_of_mem _ (List.mem_append_left _ (List.mem_of_getElem? (i := 3) rfl)))) rfl hK hP hD hS hA (fun _ => rfl) (by decide) (by decide) (by decide) (Nat.le_of_ble_eq_true rfl) (Nat.le_of_ble_eq_true rfl) dX1_init_8 (fun qwords cwords H hK hP hD hS => ?_)
  have hP : va_P D vwCl [(h0, .inr (1, [.int 0, .null, .null, .int 0, .int 0, .int 0, .int 0, .int 0, .int 0, .int 0, .int 0, .int 0, .int 0, .int 0, .int 0, .null, .null])), (qwords, .inl (cwords, 256, .inl (fun _ => 0)))] _ := hP
  have hD : va_D A [(h0, .inr (1, [.int 0, .null, .null, .int 0, .int 0, .int 0, .int 0, .int 0, .int 0, .int 0, .int 0, .int 0, .int 0, .int 0, .int 0, .null, .null])), (qwords, .inl (cwords, 256, .inl (fun _ => 0)))] := hD
  refine va_putF (D := D) (ci := 1) (v := .ref qwords) (ty := .array .int) (C := RX1) (T := TX1) (N := 17) hx hb hts hfld tyX1 tyX1_ok nmX1 hown hK hP hD hS 0 rfl rfl 1 (by decide) (hts _ (List.mem_cons_of_mem _ (List.mem_append_left _ (List.mem_of_getElem? (i := 4) rfl)))) (fun _ h9 => h9) rfl hin rfl (by decide +kernel) rfl rfl (Nat.le_of_ble_eq_true rfl) dX1_init_10 (fun H locs hP hD hS => ?_)
  have hP : va_P D vwCl [(h0, .inr (1, [.int 0, .ref qwords, .null, .int 0, .int 0, .int 0, .int 0, .int 0, .int 0, .int 0, .int 0, .int 0, .int 0, .int 0, .int 0, .null, .null])), (qwords, .inl (cwords, 256, .inl (fun _ => 0)))] H := hP
  have hD : va_D A [(h0, .inr (1, [.int 0, .ref qwords, .null, .int 0, .int 0, .int 0, .int 0, .int 0, .int 0, .int 0, .int 0, .int 0, .int 0, .int 0, .int 0, .null, .null])), (qwords, .inl (cwords, 256, .inl (fun _ => 0)))] := hD
  refine lv_aload_n hx hb dX1_init_13 rfl (lv_at hl 0 rfl) ?_
  refine lv_sipush (v := 512) hx hb dX1_init_14 (by decide) ?_
  refine va_newa (ty := .int) (N' := 512) (a0 := (512, .inl (fun _ => 0))) hx hb (hts _ (List.mem_cons_of_mem _ (List.mem_append_left _ (List.mem_of_getElem? (i := 3) rfl)))) rfl hK hP hD hS hA (fun _ => rfl) (by decide) (by decide) (by decide) (Nat.le_of_ble_eq_true rfl) (Nat.le_of_ble_eq_true rfl) dX1_init_17 (fun qbytes cbytes H hK hP hD hS => ?_)
  have hP : va_P D vwCl [(h0, .inr (1, [.int 0, .ref qwords, .null, .int 0, .int 0, .int 0, .int 0, .int 0, .int 0, .int 0, .int 0, .int 0, .int 0, .int 0, .int 0, .null, .null])), (qwords, .inl (cwords, 256, .inl (fun _ => 0))), (qbytes, .inl (cbytes, 512, .inl (fun _ => 0)))] _ := hP
  have hD : va_D A [(h0, .inr (1, [.int 0, .ref qwords, .null, .int 0, .int 0, .int 0, .int 0, .int 0, .int 0, .int 0, .int 0, .int 0, .int 0, .int 0, .int 0, .null, .null])), (qwords, .inl (cwords, 256, .inl (fun _ => 0))), (qbytes, .inl (cbytes, 512, .inl (fun _ => 0)))] := hD
  refine va_putF (D := D) (ci := 1) (v := .ref qbytes) (ty := .array .int) (C := RX1) (T := TX1) (N := 17) hx hb hts hfld tyX1 tyX1_ok nmX1 hown hK hP hD hS 0 rfl rfl 2 (by decide) (hts _ (List.mem_cons_of_mem _ (List.mem_append_left _ (List.mem_of_getElem? (i := 5) rfl)))) (fun _ h9 => h9) rfl hin rfl (by decide +kernel) rfl rfl (Nat.le_of_ble_eq_true rfl) dX1_init_19 (fun H locs hP hD hS => ?_)
  have hP : va_P D vwCl [(h0, .inr (1, [.int 0, .ref qwords, .ref qbytes, .int 0, .int 0, .int 0, .int 0, .int 0, .int 0, .int 0, .int 0, .int 0, .int 0, .int 0, .int 0, .null, .null])), (qwords, .inl (cwords, 256, .inl (fun _ => 0))), (qbytes, .inl (cbytes, 512, .inl (fun _ => 0)))] H := hP
  have hD : va_D A [(h0, .inr (1, [.int 0, .ref qwords, .ref qbytes, .int 0, .int 0, .int 0, .int 0, .int 0, .int 0, .int 0, .int 0, .int 0, .int 0, .int 0, .int 0, .null, .null])), (qwords, .inl (cwords, 256, .inl (fun _ => 0))), (qbytes, .inl (cbytes, 512, .inl (fun _ => 0)))] := hD
  refine lv_aload_n hx hb dX1_init_22 rfl (lv_at hl 0 rfl) ?_
  refine lv_bipush (v := 8) hx hb dX1_init_23 (by decide) ?_
  refine va_newa (ty := .int) (N' := 8) (a0 := (8, .inl (fun _ => 0))) hx hb (hts _ (List.mem_cons_of_mem _ (List.mem_append_left _ (List.mem_of_getElem? (i := 3) rfl)))) rfl hK hP hD hS hA (fun _ => rfl) (by decide) (by decide) (by decide) (Nat.le_of_ble_eq_true rfl) (Nat.le_of_ble_eq_true rfl) dX1_init_25 (fun qplaces cplaces H hK hP hD hS => ?_)
  have hP : va_P D vwCl [(h0, .inr (1, [.int 0, .ref qwords, .ref qbytes, .int 0, .int 0, .int 0, .int 0, .int 0, .int 0, .int 0, .int 0, .int 0, .int 0, .int 0, .int 0, .null, .null])), (qwords, .inl (cwords, 256, .inl (fun _ => 0))), (qbytes, .inl (cbytes, 512, .inl (fun _ => 0))), (qplaces, .inl (cplaces, 8, .inl (fun _ => 0)))] _ := hP
  have hD : va_D A [(h0, .inr (1, [.int 0, .ref qwords, .ref qbytes, .int 0, .int 0, .int 0, .int 0, .int 0, .int 0, .int 0, .int 0, .int 0, .int 0, .int 0, .int 0, .null, .null])), (qwords, .inl (cwords, 256, .inl (fun _ => 0))), (qbytes, .inl (cbytes, 512, .inl (fun _ => 0))), (qplaces, .inl (cplaces, 8, .inl (fun _ => 0)))] := hD
  refine va_putF (D := D) (ci := 1) (v := .ref qplaces) (ty := .array .int) (C := RX1) (T := TX1) (N := 17) hx hb hts hfld tyX1 tyX1_ok nmX1 hown hK hP hD hS 0 rfl rfl 15 (by decide) (hts _ (List.mem_cons_of_mem _ (List.mem_append_left _ (List.mem_of_getElem? (i := 6) rfl)))) (fun _ h9 => h9) rfl hin rfl (by decide +kernel) rfl rfl (Nat.le_of_ble_eq_true rfl) dX1_init_27 (fun H locs hP hD hS => ?_)
  have hP : va_P D vwCl [(h0, .inr (1, [.int 0, .ref qwords, .ref qbytes, .int 0, .int 0, .int 0, .int 0, .int 0, .int 0, .int 0, .int 0, .int 0, .int 0, .int 0, .int 0, .ref qplaces, .null])), (qwords, .inl (cwords, 256, .inl (fun _ => 0))), (qbytes, .inl (cbytes, 512, .inl (fun _ => 0))), (qplaces, .inl (cplaces, 8, .inl (fun _ => 0)))] H := hP
  have hD : va_D A [(h0, .inr (1, [.int 0, .ref qwords, .ref qbytes, .int 0, .int 0, .int 0, .int 0, .int 0, .int 0, .int 0, .int 0, .int 0, .int 0, .int 0, .int 0, .ref qplaces, .null])), (qwords, .inl (cwords, 256, .inl (fun _ => 0))), (qbytes, .inl (cbytes, 512, .inl (fun _ => 0))), (qplaces, .inl (cplaces, 8, .inl (fun _ => 0)))] := hD
  refine lv_aload_n hx hb dX1_init_30 rfl (lv_at hl 0 rfl) ?_
  refine lv_bipush (v := 8) hx hb dX1_init_31 (by decide) ?_
  refine va_newa (ty := .int) (N' := 8) (a0 := (8, .inl (fun _ => 0))) hx hb (hts _ (List.mem_cons_of_mem _ (List.mem_append_left _ (List.mem_of_getElem? (i := 3) rfl)))) rfl hK hP hD hS hA (fun _ => rfl) (by decide) (by decide) (by decide) (Nat.le_of_ble_eq_true rfl) (Nat.le_of_ble_eq_true rfl) dX1_init_33 (fun qbefore cbefore H hK hP hD hS => ?_)
  have hP : va_P D vwCl [(h0, .inr (1, [.int 0, .ref qwords, .ref qbytes, .int 0, .int 0, .int 0, .int 0, .int 0, .int 0, .int 0, .int 0, .int 0, .int 0, .int 0, .int 0, .ref qplaces, .null])), (qwords, .inl (cwords, 256, .inl (fun _ => 0))), (qbytes, .inl (cbytes, 512, .inl (fun _ => 0))), (qplaces, .inl (cplaces, 8, .inl (fun _ => 0))), (qbefore, .inl (cbefore, 8, .inl (fun _ => 0)))] _ := hP
  have hD : va_D A [(h0, .inr (1, [.int 0, .ref qwords, .ref qbytes, .int 0, .int 0, .int 0, .int 0, .int 0, .int 0, .int 0, .int 0, .int 0, .int 0, .int 0, .int 0, .ref qplaces, .null])), (qwords, .inl (cwords, 256, .inl (fun _ => 0))), (qbytes, .inl (cbytes, 512, .inl (fun _ => 0))), (qplaces, .inl (cplaces, 8, .inl (fun _ => 0))), (qbefore, .inl (cbefore, 8, .inl (fun _ => 0)))] := hD
  refine va_putF (D := D) (ci := 1) (v := .ref qbefore) (ty := .array .int) (C := RX1) (T := TX1) (N := 17) hx hb hts hfld tyX1 tyX1_ok nmX1 hown hK hP hD hS 0 rfl rfl 16 (by decide) (hts _ (List.mem_cons_of_mem _ (List.mem_append_left _ (List.mem_of_getElem? (i := 7) rfl)))) (fun _ h9 => h9) rfl hin rfl (by decide +kernel) rfl rfl (Nat.le_of_ble_eq_true rfl) dX1_init_35 (fun H locs hP hD hS => ?_)
  have hP : va_P D vwCl [(h0, .inr (1, [.int 0, .ref qwords, .ref qbytes, .int 0, .int 0, .int 0, .int 0, .int 0, .int 0, .int 0, .int 0, .int 0, .int 0, .int 0, .int 0, .ref qplaces, .ref qbefore])), (qwords, .inl (cwords, 256, .inl (fun _ => 0))), (qbytes, .inl (cbytes, 512, .inl (fun _ => 0))), (qplaces, .inl (cplaces, 8, .inl (fun _ => 0))), (qbefore, .inl (cbefore, 8, .inl (fun _ => 0)))] H := hP
  have hD : va_D A [(h0, .inr (1, [.int 0, .ref qwords, .ref qbytes, .int 0, .int 0, .int 0, .int 0, .int 0, .int 0, .int 0, .int 0, .int 0, .int 0, .int 0, .int 0, .ref qplaces, .ref qbefore])), (qwords, .inl (cwords, 256, .inl (fun _ => 0))), (qbytes, .inl (cbytes, 512, .inl (fun _ => 0))), (qplaces, .inl (cplaces, 8, .inl (fun _ => 0))), (qbefore, .inl (cbefore, 8, .inl (fun _ => 0)))] := hD
  exact W.vret hx hb hr (fun t ht hW => ⟨⟨(qwords, qbytes, qplaces, qbefore, cwords, cbytes, cplaces, cbefore), rfl, trivial, by rw [ht]; exact hP, va_K.moved hW.alike hK, hD⟩, hS.F ht⟩) hS.2.2 dX1_init_38 (hlocks := hlocks)
