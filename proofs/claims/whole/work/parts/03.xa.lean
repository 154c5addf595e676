def zx_isWord (a1 : Int32) : Int32 :=
  if a1 < 0 then (
    0)
  else (
    if 256 ≤ a1 then (
      0)
    else (
      1))
set_option maxHeartbeats 4000000 in
set_option maxRecDepth 100000 in
theorem zxM_isWord (l : Launch) (a1 : Int32) : Met l yX0_isWord (.code yX0_isWord cX0_isWord 1 (some .boolean) :: wsX0_step) (zrm 0) (fun a _ => a = ([.int a1] : List Value).toArray) (QcRead (zx_isWord a1)) 0 0 (fun _ => False) := by
  refine z_enterS (by decide) (Nat.le_of_ble_eq_true rfl) ?_
  intro p e s m below meth c ls hx hb hr hlk hl
  have hl : lv_has ls 1 [(0, .int a1)] := hl
  refine lv_iload_n hx hb dX0_isWord_0 rfl (lv_at hl 0 rfl) ?_
  refine lv_if_lt (tgt := 15) hx hb dX0_isWord_1 (by decide) (fun c1 => ?_) (fun c1 => ?_)
  · refine lv_iconst (v := 0) hx hb dX0_isWord_15 (by decide) ?_
    exact z_sret hx hb hr rfl hlk (by exact (if_pos c1).trans (rfl)) dX0_isWord_16
  · refine lv_iload_n hx hb dX0_isWord_4 rfl (lv_at hl 0 rfl) ?_
    refine lv_sipush (v := 256) hx hb dX0_isWord_5 (by decide) ?_
    refine lv_icmp_ge (tgt := 15) hx hb dX0_isWord_8 (by decide) (fun c2 => ?_) (fun c2 => ?_)
    · refine lv_iconst (v := 0) hx hb dX0_isWord_15 (by decide) ?_
      exact z_sret hx hb hr rfl hlk (by exact (if_neg c1).trans ((if_pos c2).trans (rfl))) dX0_isWord_16
    · refine lv_iconst (v := 1) hx hb dX0_isWord_11 (by decide) ?_
      refine lv_goto (tgt := 16) hx hb dX0_isWord_12 (by decide) ?_
      exact z_sret hx hb hr rfl hlk (by exact (if_neg c1).trans ((if_neg c2).trans (rfl))) dX0_isWord_16
section
variable {p : Program} {l : Launch} {e : Env} {R : Room} {s : State} {m : MethodId} {args : Array Value} {below : List Frame} {meth : Method} {c : Code} {H : Heap} {locs : List Loc} {Q : State → Prop} {cc : ByteArray} {pc nL : Nat} {ls : Array Slot} {rest : List Value} {k : Zxk} {u : Zxs} {H0 : Heap}
set_option maxHeartbeats 4000000 in
set_option maxRecDepth 100000 in
theorem zxK_isWord {a1 : Int32} (C : ZxC p s m args c cc nL k) (hsz : ls.size = nL) (hR : 0 + 1 ≤ R.frames ∧ 8 + (1 + 11) + 40 * 0 ≤ R.locals) (hw : (rest.map fun v => v.category).sum ≤ 8) (hdg : decode cc pc = .ok (.invokestatic 42, 3)) (kk : W p l e R s m args below meth c H locs 0 0 Q (F0 m (pc + 3) ls (.int (zx_isWord a1) :: rest))) : W p l e R s m args below meth c H locs 0 0 Q (F0 m pc ls (.int a1 :: rest)) :=
  zx_callS (y := yX0_isWord) (n := 1) C (zxM_isWord l a1 ) wsX0_step_c_isWord wsX0_step_l_isWord wsX0_step_s_isWord rfl (by decide +kernel) hsz hR hw rfl hdg kk
end
def zx_areBytes (a1 a2 : Int32) : Int32 :=
  if a1 < 0 then (
    0)
  else (
    if (512 - a2) < a1 then (
      0)
    else (
      1))
set_option maxHeartbeats 4000000 in
set_option maxRecDepth 100000 in
theorem zxM_areBytes (l : Launch) (a1 a2 : Int32) : Met l yX0_areBytes (.code yX0_areBytes cX0_areBytes 2 (some .boolean) :: wsX0_step) (zrm 0) (fun a _ => a = ([.int a1, .int a2] : List Value).toArray) (QcRead (zx_areBytes a1 a2)) 0 0 (fun _ => False) := by
  refine z_enterS (by decide) (Nat.le_of_ble_eq_true rfl) ?_
  intro p e s m below meth c ls hx hb hr hlk hl
  have hl : lv_has ls 2 [(0, .int a1), (1, .int a2)] := hl
  refine lv_iload_n hx hb dX0_areBytes_0 rfl (lv_at hl 0 rfl) ?_
  refine lv_if_lt (tgt := 17) hx hb dX0_areBytes_1 (by decide) (fun c1 => ?_) (fun c1 => ?_)
  · refine lv_iconst (v := 0) hx hb dX0_areBytes_17 (by decide) ?_
    exact z_sret hx hb hr rfl hlk (by exact (if_pos c1).trans (rfl)) dX0_areBytes_18
  · refine lv_iload_n hx hb dX0_areBytes_4 rfl (lv_at hl 0 rfl) ?_
    refine lv_sipush (v := 512) hx hb dX0_areBytes_5 (by decide) ?_
    refine lv_iload_n hx hb dX0_areBytes_8 rfl (lv_at hl 1 rfl) ?_
    refine lv_isub hx hb dX0_areBytes_9 ?_
    refine lv_icmp_gt (tgt := 17) hx hb dX0_areBytes_10 (by decide) (fun c2 => ?_) (fun c2 => ?_)
    · refine lv_iconst (v := 0) hx hb dX0_areBytes_17 (by decide) ?_
      exact z_sret hx hb hr rfl hlk (by exact (if_neg c1).trans ((if_pos c2).trans (rfl))) dX0_areBytes_18
    · refine lv_iconst (v := 1) hx hb dX0_areBytes_13 (by decide) ?_
      refine lv_goto (tgt := 18) hx hb dX0_areBytes_14 (by decide) ?_
      exact z_sret hx hb hr rfl hlk (by exact (if_neg c1).trans ((if_neg c2).trans (rfl))) dX0_areBytes_18
section
variable {p : Program} {l : Launch} {e : Env} {R : Room} {s : State} {m : MethodId} {args : Array Value} {below : List Frame} {meth : Method} {c : Code} {H : Heap} {locs : List Loc} {Q : State → Prop} {cc : ByteArray} {pc nL : Nat} {ls : Array Slot} {rest : List Value} {k : Zxk} {u : Zxs} {H0 : Heap}
set_option maxHeartbeats 4000000 in
set_option maxRecDepth 100000 in
theorem zxK_areBytes {a1 a2 : Int32} (C : ZxC p s m args c cc nL k) (hsz : ls.size = nL) (hR : 0 + 1 ≤ R.frames ∧ 8 + (2 + 11) + 40 * 0 ≤ R.locals) (hw : (rest.map fun v => v.category).sum ≤ 8) (hdg : decode cc pc = .ok (.invokestatic 53, 3)) (kk : W p l e R s m args below meth c H locs 0 0 Q (F0 m (pc + 3) ls (.int (zx_areBytes a1 a2) :: rest))) : W p l e R s m args below meth c H locs 0 0 Q (F0 m pc ls (.int a2 :: .int a1 :: rest)) :=
  zx_callS (y := yX0_areBytes) (n := 2) C (zxM_areBytes l a1 a2 ) wsX0_step_c_areBytes wsX0_step_l_areBytes wsX0_step_s_areBytes rfl (by decide +kernel) hsz hR hw rfl hdg kk
end
def zx_combined (a1 a2 a3 : Int32) : Int32 :=
  if a1 = 96 then (
    a2 + a3)
  else (
    if a1 = 100 then (
      a2 - a3)
    else (
      if a1 = 126 then (
        a2 &&& a3)
      else (
        a2 ||| a3)))
set_option maxHeartbeats 4000000 in
set_option maxRecDepth 100000 in
theorem zxM_combined (l : Launch) (a1 a2 a3 : Int32) : Met l yX0_combined (.code yX0_combined cX0_combined 3 (some .int) :: wsX0_step) (zrm 0) (fun a _ => a = ([.int a1, .int a2, .int a3] : List Value).toArray) (QcRead (zx_combined a1 a2 a3)) 0 0 (fun _ => False) := by
  refine z_enterS (by decide) (Nat.le_of_ble_eq_true rfl) ?_
  intro p e s m below meth c ls hx hb hr hlk hl
  have hl : lv_has ls 3 [(0, .int a1), (1, .int a2), (2, .int a3)] := hl
  refine lv_iload_n hx hb dX0_combined_0 rfl (lv_at hl 0 rfl) ?_
  by_cases c1 : a1 = 96
  · refine lv_lookup (off := 35) (tgt := 36) hx hb dX0_combined_1 (by decide) (z_sw c1 (by decide)) (by decide) ?_
    refine lv_iload_n hx hb dX0_combined_36 rfl (lv_at hl 1 rfl) ?_
    refine lv_iload_n hx hb dX0_combined_37 rfl (lv_at hl 2 rfl) ?_
    refine lv_iadd hx hb dX0_combined_38 ?_
    exact z_sret hx hb hr rfl hlk (by exact (if_pos c1).trans (rfl)) dX0_combined_39
  · skip
    by_cases c2 : a1 = 100
    · refine lv_lookup (off := 39) (tgt := 40) hx hb dX0_combined_1 (by decide) (z_sw c2 (by decide)) (by decide) ?_
      refine lv_iload_n hx hb dX0_combined_40 rfl (lv_at hl 1 rfl) ?_
      refine lv_iload_n hx hb dX0_combined_41 rfl (lv_at hl 2 rfl) ?_
      refine lv_isub hx hb dX0_combined_42 ?_
      exact z_sret hx hb hr rfl hlk (by exact (if_neg c1).trans ((if_pos c2).trans (rfl))) dX0_combined_43
    · skip
      by_cases c3 : a1 = 126
      · refine lv_lookup (off := 43) (tgt := 44) hx hb dX0_combined_1 (by decide) (z_sw c3 (by decide)) (by decide) ?_
        refine lv_iload_n hx hb dX0_combined_44 rfl (lv_at hl 1 rfl) ?_
        refine lv_iload_n hx hb dX0_combined_45 rfl (lv_at hl 2 rfl) ?_
        refine lv_iand hx hb dX0_combined_46 ?_
        exact z_sret hx hb hr rfl hlk (by exact (if_neg c1).trans ((if_neg c2).trans ((if_pos c3).trans (rfl)))) dX0_combined_47
      · skip
        refine lv_lookup (off := 47) (tgt := 48) hx hb dX0_combined_1 (by decide) ((lv_osw c1 (by decide)).trans ((lv_osw c2 (by decide)).trans ((lv_osw c3 (by decide)).trans (rfl)))) (by decide) ?_
        refine lv_iload_n hx hb dX0_combined_48 rfl (lv_at hl 1 rfl) ?_
        refine lv_iload_n hx hb dX0_combined_49 rfl (lv_at hl 2 rfl) ?_
        refine lv_ior hx hb dX0_combined_50 ?_
        exact z_sret hx hb hr rfl hlk (by exact (if_neg c1).trans ((if_neg c2).trans ((if_neg c3).trans (rfl)))) dX0_combined_51
section
variable {p : Program} {l : Launch} {e : Env} {R : Room} {s : State} {m : MethodId} {args : Array Value} {below : List Frame} {meth : Method} {c : Code} {H : Heap} {locs : List Loc} {Q : State → Prop} {cc : ByteArray} {pc nL : Nat} {ls : Array Slot} {rest : List Value} {k : Zxk} {u : Zxs} {H0 : Heap}
set_option maxHeartbeats 4000000 in
set_option maxRecDepth 100000 in
theorem zxK_combined {a1 a2 a3 : Int32} (C : ZxC p s m args c cc nL k) (hsz : ls.size = nL) (hR : 0 + 1 ≤ R.frames ∧ 8 + (3 + 11) + 40 * 0 ≤ R.locals) (hw : (rest.map fun v => v.category).sum ≤ 8) (hdg : decode cc pc = .ok (.invokestatic 139, 3)) (kk : W p l e R s m args below meth c H locs 0 0 Q (F0 m (pc + 3) ls (.int (zx_combined a1 a2 a3) :: rest))) : W p l e R s m args below meth c H locs 0 0 Q (F0 m pc ls (.int a3 :: .int a2 :: .int a1 :: rest)) :=
  zx_callS (y := yX0_combined) (n := 3) C (zxM_combined l a1 a2 a3 ) wsX0_step_c_combined wsX0_step_l_combined wsX0_step_s_combined rfl (by decide +kernel) hsz hR hw rfl hdg kk
end

theorem zx_in {x : Int32} (h : ¬ zx_isWord x = 0) : vp_in x 256 := by
  unfold zx_isWord at h
  by_cases a : x < 0
  · rw [if_pos a] at h; exact absurd rfl h
  rw [if_neg a] at h
  by_cases b : 256 ≤ x
  · rw [if_pos b] at h; exact absurd rfl h
  obtain ⟨q, hq, rfl⟩ := nI_of a
  exact vp_in_nI (Nat.lt_of_not_le (fun g => b (nI_le g hq))) (by decide)
theorem zx_bg {p : Int32} {j nn : Nat} (hnn : nn ≤ 4) (hj : j < nn) (h : ¬ zx_areBytes p (nI nn) = 0) : vp_in (p + nI j) 512 := by
  unfold zx_areBytes at h
  by_cases a : p < 0
  · rw [if_pos a] at h; exact absurd rfl h
  rw [if_neg a] at h
  obtain ⟨q, hq, rfl⟩ := nI_of a
  by_cases b : (512 : Int32) - nI nn < nI q
  · rw [if_pos b] at h; exact absurd rfl h
  have e : (512 : Int32) - nI nn = nI (512 - nn) := pk_sub (a := 512) (by omega)
  rw [e] at b
  have hb : q ≤ 512 - nn := Nat.le_of_not_lt (fun g => b (nI_lt g hq))
  rw [nI_add]
  exact vp_in_nI (by omega) (by decide)
theorem zx_b10 {p : Int32} (h : ¬ zx_areBytes p 1 = 0) : vp_in p 512 := by
  have g := zx_bg (j := 0) (nn := 1) (by decide) (by decide) h
  rwa [nI_0, Int32.add_zero] at g
theorem zx_b21 {p : Int32} (h : ¬ zx_areBytes p 2 = 0) : vp_in (p + 1) 512 := zx_bg (j := 1) (nn := 2) (by decide) (by decide) h
theorem zx_b31 {p : Int32} (h : ¬ zx_areBytes p 3 = 0) : vp_in (p + 1) 512 := zx_bg (j := 1) (nn := 3) (by decide) (by decide) h
theorem zx_b32 {p : Int32} (h : ¬ zx_areBytes p 3 = 0) : vp_in (p + 2) 512 := zx_bg (j := 2) (nn := 3) (by decide) (by decide) h
theorem zx_b33 {p : Int32} (h : ¬ zx_areBytes p 3 = 0) : vp_in (p + 1 + 1) 512 := by
  rw [Int32.add_assoc]; exact zx_b32 h
theorem zx_b40 {p : Int32} (h : ¬ zx_areBytes p 4 = 0) : vp_in p 512 := by
  have g := zx_bg (j := 0) (nn := 4) (by decide) (by decide) h
  rwa [nI_0, Int32.add_zero] at g
theorem zx_b41 {p : Int32} (h : ¬ zx_areBytes p 4 = 0) : vp_in (p + 1) 512 := zx_bg (j := 1) (nn := 4) (by decide) (by decide) h
theorem zx_b42 {p : Int32} (h : ¬ zx_areBytes p 4 = 0) : vp_in (p + 2) 512 := zx_bg (j := 2) (nn := 4) (by decide) (by decide) h
theorem zx_b43 {p : Int32} (h : ¬ zx_areBytes p 4 = 0) : vp_in (p + 2 + 1) 512 := by
  rw [Int32.add_assoc]; exact zx_bg (j := 3) (nn := 4) (by decide) (by decide) h
def zx_unsignedByte (u : Zxs) (a1 : Int32) : Int32 :=
  (zxg_bytes u a1.toNatClampNeg) &&& 255
set_option maxHeartbeats 4000000 in
set_option maxRecDepth 100000 in
theorem zxM_unsignedByte (l : Launch) (k : Zxk) (Dk : ZxD k) (u : Zxs) (a1 : Int32) (h1 : vp_in a1 512) : Met l yX0_unsignedByte (.code yX0_unsignedByte cX0_unsignedByte 2 (some .int) :: wsX0_step) (zrm 0) (ZxB k [.ref (zxa_this k), .int a1] u) (QcRead (zx_unsignedByte u a1)) 0 0 (fun _ => False) := by
  refine zxE_inR (by decide) rfl (Nat.le_of_ble_eq_true rfl) Dk ?_
  intro p e s m below meth c ls C hr hlk hP hl
  have hx := C.1.1
  have hb := C.1.2.1
  have hl : lv_has ls 2 [(0, .ref (zxa_this k)), (1, .int a1)] := hl
  refine lv_aload_n hx hb dX0_unsignedByte_0 rfl (lv_at hl 0 rfl) ?_
  refine zxG_bytes C hP dX0_unsignedByte_1 ?_
  refine lv_iload_n hx hb dX0_unsignedByte_4 rfl (lv_at hl 1 rfl) ?_
  refine zxL_bytes C hP (by first | with_reducible assumption | with_reducible exact zx_in (by with_reducible assumption) | with_reducible exact zx_b10 (by with_reducible assumption) | with_reducible exact zx_b21 (by with_reducible assumption) | with_reducible exact zx_b31 (by with_reducible assumption) | with_reducible exact zx_b32 (by with_reducible assumption) | with_reducible exact zx_b42 (by with_reducible assumption) | with_reducible exact zx_b43 (by with_reducible assumption) | with_reducible exact zx_b33 (by with_reducible assumption) | with_reducible exact zx_b40 (by with_reducible assumption) | with_reducible exact zx_b41 (by with_reducible assumption)) dX0_unsignedByte_5 ?_
  refine lv_sipush (v := 255) hx hb dX0_unsignedByte_6 (by decide) ?_
  refine lv_iand hx hb dX0_unsignedByte_9 ?_
  exact zx_rret C hr rfl hlk (by exact rfl) dX0_unsignedByte_10
section
variable {p : Program} {l : Launch} {e : Env} {R : Room} {s : State} {m : MethodId} {args : Array Value} {below : List Frame} {meth : Method} {c : Code} {H : Heap} {locs : List Loc} {Q : State → Prop} {cc : ByteArray} {pc nL : Nat} {ls : Array Slot} {rest : List Value} {k : Zxk} {u : Zxs} {H0 : Heap}
set_option maxHeartbeats 4000000 in
set_option maxRecDepth 100000 in
theorem zxK_unsignedByte {a1 : Int32} (C : ZxC p s m args c cc nL k) (hP : ZxP k u H) (hsz : ls.size = nL) (hR : 0 + 1 ≤ R.frames ∧ 8 + (2 + 11) + 40 * 0 ≤ R.locals) (hw : (rest.map fun v => v.category).sum ≤ 8) (h1 : vp_in a1 512) (hdg : decode cc pc = .ok (.invokevirtual 77, 3)) (kk : W p l e R s m args below meth c H locs 0 0 Q (F0 m (pc + 3) ls (.int (zx_unsignedByte u a1) :: rest))) : W p l e R s m args below meth c H locs 0 0 Q (F0 m pc ls (.int a1 :: .ref (zxa_this k) :: rest)) :=
  zx_callR (y := yX0_unsignedByte) (n := 1) (As := [.int a1]) C (zxM_unsignedByte l k C.2.2 u a1 h1) wsX0_step_c_unsignedByte wsX0_step_l_unsignedByte wsX0_step_i_unsignedByte wsX0_step_v_unsignedByte rfl (by decide +kernel) hP hsz hR hw rfl hdg kk
end
def zx_unsignedPair (u : Zxs) (a1 : Int32) : Int32 :=
  ((zx_unsignedByte u a1) <<< (8 &&& 31)) ||| (zx_unsignedByte u (a1 + 1))
set_option maxHeartbeats 4000000 in
set_option maxRecDepth 100000 in
theorem zxM_unsignedPair (l : Launch) (k : Zxk) (Dk : ZxD k) (u : Zxs) (a1 : Int32) (h1 : vp_in a1 512) (h2 : vp_in (a1 + 1) 512) : Met l yX0_unsignedPair (.code yX0_unsignedPair cX0_unsignedPair 2 (some .int) :: wsX0_step) (zrm 1) (ZxB k [.ref (zxa_this k), .int a1] u) (QcRead (zx_unsignedPair u a1)) 0 0 (fun _ => False) := by
  refine zxE_inR (by decide) rfl (Nat.le_of_ble_eq_true rfl) Dk ?_
  intro p e s m below meth c ls C hr hlk hP hl
  have hx := C.1.1
  have hb := C.1.2.1
  have hl : lv_has ls 2 [(0, .ref (zxa_this k)), (1, .int a1)] := hl
  refine lv_aload_n hx hb dX0_unsignedPair_0 rfl (lv_at hl 0 rfl) ?_
  refine lv_iload_n hx hb dX0_unsignedPair_1 rfl (lv_at hl 1 rfl) ?_
  refine zxK_unsignedByte C hP hl.1 (by decide) (Nat.le_of_ble_eq_true rfl) (by first | with_reducible assumption | with_reducible exact zx_in (by with_reducible assumption) | with_reducible exact zx_b10 (by with_reducible assumption) | with_reducible exact zx_b21 (by with_reducible assumption) | with_reducible exact zx_b31 (by with_reducible assumption) | with_reducible exact zx_b32 (by with_reducible assumption) | with_reducible exact zx_b42 (by with_reducible assumption) | with_reducible exact zx_b43 (by with_reducible assumption) | with_reducible exact zx_b33 (by with_reducible assumption) | with_reducible exact zx_b40 (by with_reducible assumption) | with_reducible exact zx_b41 (by with_reducible assumption)) dX0_unsignedPair_2 ?_
  refine lv_bipush (v := 8) hx hb dX0_unsignedPair_5 (by decide) ?_
  refine lv_ishl hx hb dX0_unsignedPair_7 ?_
  refine lv_aload_n hx hb dX0_unsignedPair_8 rfl (lv_at hl 0 rfl) ?_
  refine lv_iload_n hx hb dX0_unsignedPair_9 rfl (lv_at hl 1 rfl) ?_
  refine lv_iconst (v := 1) hx hb dX0_unsignedPair_10 (by decide) ?_
  refine lv_iadd hx hb dX0_unsignedPair_11 ?_
  refine zxK_unsignedByte C hP hl.1 (by decide) (Nat.le_of_ble_eq_true rfl) (by first | with_reducible assumption | with_reducible exact zx_in (by with_reducible assumption) | with_reducible exact zx_b10 (by with_reducible assumption) | with_reducible exact zx_b21 (by with_reducible assumption) | with_reducible exact zx_b31 (by with_reducible assumption) | with_reducible exact zx_b32 (by with_reducible assumption) | with_reducible exact zx_b42 (by with_reducible assumption) | with_reducible exact zx_b43 (by with_reducible assumption) | with_reducible exact zx_b33 (by with_reducible assumption) | with_reducible exact zx_b40 (by with_reducible assumption) | with_reducible exact zx_b41 (by with_reducible assumption)) dX0_unsignedPair_12 ?_
  refine lv_ior hx hb dX0_unsignedPair_15 ?_
  exact zx_rret C hr rfl hlk (by exact rfl) dX0_unsignedPair_16
section
variable {p : Program} {l : Launch} {e : Env} {R : Room} {s : State} {m : MethodId} {args : Array Value} {below : List Frame} {meth : Method} {c : Code} {H : Heap} {locs : List Loc} {Q : State → Prop} {cc : ByteArray} {pc nL : Nat} {ls : Array Slot} {rest : List Value} {k : Zxk} {u : Zxs} {H0 : Heap}
set_option maxHeartbeats 4000000 in
set_option maxRecDepth 100000 in
theorem zxK_unsignedPair {a1 : Int32} (C : ZxC p s m args c cc nL k) (hP : ZxP k u H) (hsz : ls.size = nL) (hR : 1 + 1 ≤ R.frames ∧ 8 + (2 + 11) + 40 * 1 ≤ R.locals) (hw : (rest.map fun v => v.category).sum ≤ 8) (h1 : vp_in a1 512) (h2 : vp_in (a1 + 1) 512) (hdg : decode cc pc = .ok (.invokevirtual 149, 3)) (kk : W p l e R s m args below meth c H locs 0 0 Q (F0 m (pc + 3) ls (.int (zx_unsignedPair u a1) :: rest))) : W p l e R s m args below meth c H locs 0 0 Q (F0 m pc ls (.int a1 :: .ref (zxa_this k) :: rest)) :=
  zx_callR (y := yX0_unsignedPair) (n := 1) (As := [.int a1]) C (zxM_unsignedPair l k C.2.2 u a1 h1 h2) wsX0_step_c_unsignedPair wsX0_step_l_unsignedPair wsX0_step_i_unsignedPair wsX0_step_v_unsignedPair rfl (by decide +kernel) hP hsz hR hw rfl hdg kk
end
def zx_signedPair (u : Zxs) (a1 : Int32) : Int32 :=
  ((zxg_bytes u a1.toNatClampNeg) <<< (8 &&& 31)) ||| (zx_unsignedByte u (a1 + 1))
set_option maxHeartbeats 4000000 in
set_option maxRecDepth 100000 in
theorem zxM_signedPair (l : Launch) (k : Zxk) (Dk : ZxD k) (u : Zxs) (a1 : Int32) (h1 : vp_in a1 512) (h2 : vp_in (a1 + 1) 512) : Met l yX0_signedPair (.code yX0_signedPair cX0_signedPair 2 (some .int) :: wsX0_step) (zrm 1) (ZxB k [.ref (zxa_this k), .int a1] u) (QcRead (zx_signedPair u a1)) 0 0 (fun _ => False) := by
  refine zxE_inR (by decide) rfl (Nat.le_of_ble_eq_true rfl) Dk ?_
  intro p e s m below meth c ls C hr hlk hP hl
  have hx := C.1.1
  have hb := C.1.2.1
  have hl : lv_has ls 2 [(0, .ref (zxa_this k)), (1, .int a1)] := hl
  refine lv_aload_n hx hb dX0_signedPair_0 rfl (lv_at hl 0 rfl) ?_
  refine zxG_bytes C hP dX0_signedPair_1 ?_
  refine lv_iload_n hx hb dX0_signedPair_4 rfl (lv_at hl 1 rfl) ?_
  refine zxL_bytes C hP (by first | with_reducible assumption | with_reducible exact zx_in (by with_reducible assumption) | with_reducible exact zx_b10 (by with_reducible assumption) | with_reducible exact zx_b21 (by with_reducible assumption) | with_reducible exact zx_b31 (by with_reducible assumption) | with_reducible exact zx_b32 (by with_reducible assumption) | with_reducible exact zx_b42 (by with_reducible assumption) | with_reducible exact zx_b43 (by with_reducible assumption) | with_reducible exact zx_b33 (by with_reducible assumption) | with_reducible exact zx_b40 (by with_reducible assumption) | with_reducible exact zx_b41 (by with_reducible assumption)) dX0_signedPair_5 ?_
  refine lv_bipush (v := 8) hx hb dX0_signedPair_6 (by decide) ?_
  refine lv_ishl hx hb dX0_signedPair_8 ?_
  refine lv_aload_n hx hb dX0_signedPair_9 rfl (lv_at hl 0 rfl) ?_
  refine lv_iload_n hx hb dX0_signedPair_10 rfl (lv_at hl 1 rfl) ?_
  refine lv_iconst (v := 1) hx hb dX0_signedPair_11 (by decide) ?_
  refine lv_iadd hx hb dX0_signedPair_12 ?_
  refine zxK_unsignedByte C hP hl.1 (by decide) (Nat.le_of_ble_eq_true rfl) (by first | with_reducible assumption | with_reducible exact zx_in (by with_reducible assumption) | with_reducible exact zx_b10 (by with_reducible assumption) | with_reducible exact zx_b21 (by with_reducible assumption) | with_reducible exact zx_b31 (by with_reducible assumption) | with_reducible exact zx_b32 (by with_reducible assumption) | with_reducible exact zx_b42 (by with_reducible assumption) | with_reducible exact zx_b43 (by with_reducible assumption) | with_reducible exact zx_b33 (by with_reducible assumption) | with_reducible exact zx_b40 (by with_reducible assumption) | with_reducible exact zx_b41 (by with_reducible assumption)) dX0_signedPair_13 ?_
  refine lv_ior hx hb dX0_signedPair_16 ?_
  exact zx_rret C hr rfl hlk (by exact rfl) dX0_signedPair_17
section
variable {p : Program} {l : Launch} {e : Env} {R : Room} {s : State} {m : MethodId} {args : Array Value} {below : List Frame} {meth : Method} {c : Code} {H : Heap} {locs : List Loc} {Q : State → Prop} {cc : ByteArray} {pc nL : Nat} {ls : Array Slot} {rest : List Value} {k : Zxk} {u : Zxs} {H0 : Heap}
set_option maxHeartbeats 4000000 in
set_option maxRecDepth 100000 in
theorem zxK_signedPair {a1 : Int32} (C : ZxC p s m args c cc nL k) (hP : ZxP k u H) (hsz : ls.size = nL) (hR : 1 + 1 ≤ R.frames ∧ 8 + (2 + 11) + 40 * 1 ≤ R.locals) (hw : (rest.map fun v => v.category).sum ≤ 8) (h1 : vp_in a1 512) (h2 : vp_in (a1 + 1) 512) (hdg : decode cc pc = .ok (.invokevirtual 152, 3)) (kk : W p l e R s m args below meth c H locs 0 0 Q (F0 m (pc + 3) ls (.int (zx_signedPair u a1) :: rest))) : W p l e R s m args below meth c H locs 0 0 Q (F0 m pc ls (.int a1 :: .ref (zxa_this k) :: rest)) :=
  zx_callR (y := yX0_signedPair) (n := 1) (As := [.int a1]) C (zxM_signedPair l k C.2.2 u a1 h1 h2) wsX0_step_c_signedPair wsX0_step_l_signedPair wsX0_step_i_signedPair wsX0_step_v_signedPair rfl (by decide +kernel) hP hsz hR hw rfl hdg kk
end
def zx_finish (u : Zxs) (a1 a2 : Int32) : Zxs :=
  let u1 := zxs_pc u a1
  let u2 := zxs_cycles u1 ((zxg_cycles u1) + a2)
  let u3 := zxs_instructions u2 ((zxg_instructions u2) + 1)
  u3
set_option maxHeartbeats 4000000 in
set_option maxRecDepth 100000 in
theorem zxM_finish (l : Launch) (k : Zxk) (Dk : ZxD k) (u : Zxs) (a1 a2 : Int32) : Met l yX0_finish (.code yX0_finish cX0_finish 3 none :: wsX0_step) (zrm 0) (ZxB k [.ref (zxa_this k), .int a1, .int a2] u) (ZxQ k none (zx_finish u a1 a2)) 0 0 (ZxA k) := by
  refine zxE_in (by decide) rfl (Nat.le_of_ble_eq_true rfl) Dk ?_
  intro p e s m below meth c ls C hr hlk hP hl
  have hx := C.1.1
  have hb := C.1.2.1
  have hl : lv_has ls 3 [(0, .ref (zxa_this k)), (1, .int a1), (2, .int a2)] := hl
  have hS : va_S (ZxA k) s.heap s.heap [] := va_S.rf
  refine lv_aload_n hx hb dX0_finish_0 rfl (lv_at hl 0 rfl) ?_
  refine lv_iload_n hx hb dX0_finish_1 rfl (lv_at hl 1 rfl) ?_
  refine zxP_pc C hP hS dX0_finish_2 (fun u1 H locs hu1 hP hS => ?_)
  refine lv_aload_n hx hb dX0_finish_5 rfl (lv_at hl 0 rfl) ?_
  refine lv_dup hx hb dX0_finish_6 rfl ?_
  refine zxG_cycles C hP dX0_finish_7 ?_
  refine lv_iload_n hx hb dX0_finish_10 rfl (lv_at hl 2 rfl) ?_
  refine lv_iadd hx hb dX0_finish_11 ?_
  refine zxP_cycles C hP hS dX0_finish_12 (fun u2 H locs hu2 hP hS => ?_)
  refine lv_aload_n hx hb dX0_finish_15 rfl (lv_at hl 0 rfl) ?_
  refine lv_dup hx hb dX0_finish_16 rfl ?_
  refine zxG_instructions C hP dX0_finish_17 ?_
  refine lv_iconst (v := 1) hx hb dX0_finish_20 (by decide) ?_
  refine lv_iadd hx hb dX0_finish_21 ?_
  refine zxP_instructions C hP hS dX0_finish_22 (fun u3 H locs hu3 hP hS => ?_)
  exact zx_vret C hr hlk hP hS (by subst hu3 hu2 hu1; exact rfl) dX0_finish_25
section
variable {p : Program} {l : Launch} {e : Env} {R : Room} {s : State} {m : MethodId} {args : Array Value} {below : List Frame} {meth : Method} {c : Code} {H : Heap} {locs : List Loc} {Q : State → Prop} {cc : ByteArray} {pc nL : Nat} {ls : Array Slot} {rest : List Value} {k : Zxk} {u : Zxs} {H0 : Heap}
set_option maxHeartbeats 4000000 in
set_option maxRecDepth 100000 in
theorem zxK_finish {a1 a2 : Int32} (C : ZxC p s m args c cc nL k) (hP : ZxP k u H) (hS : va_S (ZxA k) H0 H locs) (hsz : ls.size = nL) (hR : 0 + 1 ≤ R.frames ∧ 8 + (3 + 11) + 40 * 0 ≤ R.locals) (hw : (rest.map fun v => v.category).sum ≤ 8) (hdg : decode cc pc = .ok (.invokevirtual 81, 3)) (kk : ∀ (u1 : Zxs) (H1 : Heap) (locs1 : List Loc), u1 = zx_finish u a1 a2 → ZxP k u1 H1 → va_S (ZxA k) H0 H1 locs1 → W p l e R s m args below meth c H1 locs1 0 0 Q (F0 m (pc + 3) ls (rest))) : W p l e R s m args below meth c H locs 0 0 Q (F0 m pc ls (.int a2 :: .int a1 :: .ref (zxa_this k) :: rest)) :=
  zx_callV (y := yX0_finish) (n := 2) (As := [.int a1, .int a2]) C (zxM_finish l k C.2.2 u a1 a2 ) wsX0_step_c_finish wsX0_step_l_finish wsX0_step_i_finish wsX0_step_v_finish rfl (by decide +kernel) hP hS hsz hR hw rfl hdg (fun H1 locs1 hP1 hS1 => kk _ H1 locs1 rfl hP1 hS1)
end
def zx_fault (u : Zxs) : Zxs :=
  let u1 := zxs_state u 3
  u1
set_option maxHeartbeats 4000000 in
set_option maxRecDepth 100000 in
theorem zxM_fault (l : Launch) (k : Zxk) (Dk : ZxD k) (u : Zxs) : Met l yX0_fault (.code yX0_fault cX0_fault 1 none :: wsX0_step) (zrm 0) (ZxB k [.ref (zxa_this k)] u) (ZxQ k none (zx_fault u )) 0 0 (ZxA k) := by
  refine zxE_in (by decide) rfl (Nat.le_of_ble_eq_true rfl) Dk ?_
  intro p e s m below meth c ls C hr hlk hP hl
  have hx := C.1.1
  have hb := C.1.2.1
  have hl : lv_has ls 1 [(0, .ref (zxa_this k))] := hl
  have hS : va_S (ZxA k) s.heap s.heap [] := va_S.rf
  refine lv_aload_n hx hb dX0_fault_0 rfl (lv_at hl 0 rfl) ?_
  refine lv_iconst (v := 3) hx hb dX0_fault_1 (by decide) ?_
  refine zxP_state C hP hS dX0_fault_2 (fun u1 H locs hu1 hP hS => ?_)
  exact zx_vret C hr hlk hP hS (by subst hu1; exact rfl) dX0_fault_5
section
variable {p : Program} {l : Launch} {e : Env} {R : Room} {s : State} {m : MethodId} {args : Array Value} {below : List Frame} {meth : Method} {c : Code} {H : Heap} {locs : List Loc} {Q : State → Prop} {cc : ByteArray} {pc nL : Nat} {ls : Array Slot} {rest : List Value} {k : Zxk} {u : Zxs} {H0 : Heap}
set_option maxHeartbeats 4000000 in
set_option maxRecDepth 100000 in
theorem zxK_fault (C : ZxC p s m args c cc nL k) (hP : ZxP k u H) (hS : va_S (ZxA k) H0 H locs) (hsz : ls.size = nL) (hR : 0 + 1 ≤ R.frames ∧ 8 + (1 + 11) + 40 * 0 ≤ R.locals) (hw : (rest.map fun v => v.category).sum ≤ 8) (hdg : decode cc pc = .ok (.invokevirtual 74, 3)) (kk : ∀ (u1 : Zxs) (H1 : Heap) (locs1 : List Loc), u1 = zx_fault u  → ZxP k u1 H1 → va_S (ZxA k) H0 H1 locs1 → W p l e R s m args below meth c H1 locs1 0 0 Q (F0 m (pc + 3) ls (rest))) : W p l e R s m args below meth c H locs 0 0 Q (F0 m pc ls (.ref (zxa_this k) :: rest)) :=
  zx_callV (y := yX0_fault) (n := 0) (As := []) C (zxM_fault l k C.2.2 u  ) wsX0_step_c_fault wsX0_step_l_fault wsX0_step_i_fault wsX0_step_v_fault rfl (by decide +kernel) hP hS hsz hR hw rfl hdg (fun H1 locs1 hP1 hS1 => kk _ H1 locs1 rfl hP1 hS1)
end
def zx_trap (u : Zxs) : Zxs :=
  let u1 := zxs_state u 2
  u1
set_option maxHeartbeats 4000000 in
set_option maxRecDepth 100000 in
theorem zxM_trap (l : Launch) (k : Zxk) (Dk : ZxD k) (u : Zxs) : Met l yX0_trap (.code yX0_trap cX0_trap 1 none :: wsX0_step) (zrm 0) (ZxB k [.ref (zxa_this k)] u) (ZxQ k none (zx_trap u )) 0 0 (ZxA k) := by
  refine zxE_in (by decide) rfl (Nat.le_of_ble_eq_true rfl) Dk ?_
  intro p e s m below meth c ls C hr hlk hP hl
  have hx := C.1.1
  have hb := C.1.2.1
  have hl : lv_has ls 1 [(0, .ref (zxa_this k))] := hl
  have hS : va_S (ZxA k) s.heap s.heap [] := va_S.rf
  refine lv_aload_n hx hb dX0_trap_0 rfl (lv_at hl 0 rfl) ?_
  refine lv_iconst (v := 2) hx hb dX0_trap_1 (by decide) ?_
  refine zxP_state C hP hS dX0_trap_2 (fun u1 H locs hu1 hP hS => ?_)
  exact zx_vret C hr hlk hP hS (by subst hu1; exact rfl) dX0_trap_5
section
variable {p : Program} {l : Launch} {e : Env} {R : Room} {s : State} {m : MethodId} {args : Array Value} {below : List Frame} {meth : Method} {c : Code} {H : Heap} {locs : List Loc} {Q : State → Prop} {cc : ByteArray} {pc nL : Nat} {ls : Array Slot} {rest : List Value} {k : Zxk} {u : Zxs} {H0 : Heap}
set_option maxHeartbeats 4000000 in
set_option maxRecDepth 100000 in
theorem zxK_trap (C : ZxC p s m args c cc nL k) (hP : ZxP k u H) (hS : va_S (ZxA k) H0 H locs) (hsz : ls.size = nL) (hR : 0 + 1 ≤ R.frames ∧ 8 + (1 + 11) + 40 * 0 ≤ R.locals) (hw : (rest.map fun v => v.category).sum ≤ 8) (hdg : decode cc pc = .ok (.invokevirtual 136, 3)) (kk : ∀ (u1 : Zxs) (H1 : Heap) (locs1 : List Loc), u1 = zx_trap u  → ZxP k u1 H1 → va_S (ZxA k) H0 H1 locs1 → W p l e R s m args below meth c H1 locs1 0 0 Q (F0 m (pc + 3) ls (rest))) : W p l e R s m args below meth c H locs 0 0 Q (F0 m pc ls (.ref (zxa_this k) :: rest)) :=
  zx_callV (y := yX0_trap) (n := 0) (As := []) C (zxM_trap l k C.2.2 u  ) wsX0_step_c_trap wsX0_step_l_trap wsX0_step_i_trap wsX0_step_v_trap rfl (by decide +kernel) hP hS hsz hR hw rfl hdg (fun H1 locs1 hP1 hS1 => kk _ H1 locs1 rfl hP1 hS1)
end
def zx_halt (u : Zxs) : Zxs :=
  let u1 := zxs_state u 1
  let u2 := zx_finish u1 (zxg_pc u1) 2
  u2
set_option maxHeartbeats 4000000 in
set_option maxRecDepth 100000 in
theorem zxM_halt (l : Launch) (k : Zxk) (Dk : ZxD k) (u : Zxs) : Met l yX0_halt (.code yX0_halt cX0_halt 1 none :: wsX0_step) (zrm 1) (ZxB k [.ref (zxa_this k)] u) (ZxQ k none (zx_halt u )) 0 0 (ZxA k) := by
  refine zxE_in (by decide) rfl (Nat.le_of_ble_eq_true rfl) Dk ?_
  intro p e s m below meth c ls C hr hlk hP hl
  have hx := C.1.1
  have hb := C.1.2.1
  have hl : lv_has ls 1 [(0, .ref (zxa_this k))] := hl
  have hS : va_S (ZxA k) s.heap s.heap [] := va_S.rf
  refine lv_aload_n hx hb dX0_halt_0 rfl (lv_at hl 0 rfl) ?_
  refine lv_iconst (v := 1) hx hb dX0_halt_1 (by decide) ?_
  refine zxP_state C hP hS dX0_halt_2 (fun u1 H locs hu1 hP hS => ?_)
  refine lv_aload_n hx hb dX0_halt_5 rfl (lv_at hl 0 rfl) ?_
  refine lv_aload_n hx hb dX0_halt_6 rfl (lv_at hl 0 rfl) ?_
  refine zxG_pc C hP dX0_halt_7 ?_
  refine lv_iconst (v := 2) hx hb dX0_halt_10 (by decide) ?_
  refine zxK_finish C hP hS hl.1 (by decide) (Nat.le_of_ble_eq_true rfl) dX0_halt_11 (fun u2 H locs hu2 hP hS => ?_)
  exact zx_vret C hr hlk hP hS (by subst hu2 hu1; exact rfl) dX0_halt_14
section
variable {p : Program} {l : Launch} {e : Env} {R : Room} {s : State} {m : MethodId} {args : Array Value} {below : List Frame} {meth : Method} {c : Code} {H : Heap} {locs : List Loc} {Q : State → Prop} {cc : ByteArray} {pc nL : Nat} {ls : Array Slot} {rest : List Value} {k : Zxk} {u : Zxs} {H0 : Heap}
set_option maxHeartbeats 4000000 in
set_option maxRecDepth 100000 in
theorem zxK_halt (C : ZxC p s m args c cc nL k) (hP : ZxP k u H) (hS : va_S (ZxA k) H0 H locs) (hsz : ls.size = nL) (hR : 1 + 1 ≤ R.frames ∧ 8 + (1 + 11) + 40 * 1 ≤ R.locals) (hw : (rest.map fun v => v.category).sum ≤ 8) (hdg : decode cc pc = .ok (.invokevirtual 133, 3)) (kk : ∀ (u1 : Zxs) (H1 : Heap) (locs1 : List Loc), u1 = zx_halt u  → ZxP k u1 H1 → va_S (ZxA k) H0 H1 locs1 → W p l e R s m args below meth c H1 locs1 0 0 Q (F0 m (pc + 3) ls (rest))) : W p l e R s m args below meth c H locs 0 0 Q (F0 m pc ls (.ref (zxa_this k) :: rest)) :=
  zx_callV (y := yX0_halt) (n := 0) (As := []) C (zxM_halt l k C.2.2 u  ) wsX0_step_c_halt wsX0_step_l_halt wsX0_step_i_halt wsX0_step_v_halt rfl (by decide +kernel) hP hS hsz hR hw rfl hdg (fun H1 locs1 hP1 hS1 => kk _ H1 locs1 rfl hP1 hS1)
end
def zx_push (u : Zxs) (a1 a2 a3 : Int32) : Zxs :=
  if (zx_isWord ((zxg_sp u) + 1)) = 0 then (
    let u6 := zx_fault u
    u6)
  else (
    let u2 := zxs_sp u ((zxg_sp u) + 1)
    let u3 := zxs_top u2 a1
    let u4 := zxs_words u3 (upd (zxg_words u3) ((zxg_sp u) + 1).toNatClampNeg a1)
    let u5 := zx_finish u4 ((zxg_pc u4) + a2) a3
    u5)
set_option maxHeartbeats 4000000 in
set_option maxRecDepth 100000 in
theorem zxM_push (l : Launch) (k : Zxk) (Dk : ZxD k) (u : Zxs) (a1 a2 a3 : Int32) : Met l yX0_push (.code yX0_push cX0_push 5 none :: wsX0_step) (zrm 1) (ZxB k [.ref (zxa_this k), .int a1, .int a2, .int a3] u) (ZxQ k none (zx_push u a1 a2 a3)) 0 0 (ZxA k) := by
  refine zxE_in (by decide) rfl (Nat.le_of_ble_eq_true rfl) Dk ?_
  intro p e s m below meth c ls C hr hlk hP hl
  have hx := C.1.1
  have hb := C.1.2.1
  have hl : lv_has ls 5 [(0, .ref (zxa_this k)), (1, .int a1), (2, .int a2), (3, .int a3)] := hl
  have hS : va_S (ZxA k) s.heap s.heap [] := va_S.rf
  refine lv_aload_n hx hb dX0_push_0 rfl (lv_at hl 0 rfl) ?_
  refine zxG_sp C hP dX0_push_1 ?_
  refine lv_iconst (v := 1) hx hb dX0_push_4 (by decide) ?_
  refine lv_iadd hx hb dX0_push_5 ?_
  refine lv_istore (lv' := [(4, .int ((zxg_sp u) + 1)), (0, .ref (zxa_this k)), (1, .int a1), (2, .int a2), (3, .int a3)]) hx hb dX0_push_6 hl (by decide) rfl (fun ls hl => ?_)
  refine lv_iload hx hb dX0_push_8 (lv_at hl 0 rfl) ?_
  refine zxK_isWord C hl.1 (by decide) (Nat.le_of_ble_eq_true rfl) dX0_push_10 ?_
  refine lv_if_ne (tgt := 21) hx hb dX0_push_13 (by decide) (fun c1 => ?_) (fun c1 => ?_)
  · refine lv_aload_n hx hb dX0_push_21 rfl (lv_at hl 1 rfl) ?_
    refine lv_iload hx hb dX0_push_22 (lv_at hl 0 rfl) ?_
    refine zxP_sp C hP hS dX0_push_24 (fun u2 H locs hu2 hP hS => ?_)
    refine lv_aload_n hx hb dX0_push_27 rfl (lv_at hl 1 rfl) ?_
    refine lv_iload_n hx hb dX0_push_28 rfl (lv_at hl 2 rfl) ?_
    refine zxP_top C hP hS dX0_push_29 (fun u3 H locs hu3 hP hS => ?_)
    refine lv_aload_n hx hb dX0_push_32 rfl (lv_at hl 1 rfl) ?_
    refine zxG_words C hP dX0_push_33 ?_
    refine lv_iload hx hb dX0_push_36 (lv_at hl 0 rfl) ?_
    refine lv_iload_n hx hb dX0_push_38 rfl (lv_at hl 2 rfl) ?_
    refine zxS_words C hP hS (by first | with_reducible assumption | with_reducible exact zx_in (by with_reducible assumption) | with_reducible exact zx_b10 (by with_reducible assumption) | with_reducible exact zx_b21 (by with_reducible assumption) | with_reducible exact zx_b31 (by with_reducible assumption) | with_reducible exact zx_b32 (by with_reducible assumption) | with_reducible exact zx_b42 (by with_reducible assumption) | with_reducible exact zx_b43 (by with_reducible assumption) | with_reducible exact zx_b33 (by with_reducible assumption) | with_reducible exact zx_b40 (by with_reducible assumption) | with_reducible exact zx_b41 (by with_reducible assumption)) dX0_push_39 (fun u4 H locs hu4 hP hS => ?_)
    refine lv_aload_n hx hb dX0_push_40 rfl (lv_at hl 1 rfl) ?_
    refine lv_aload_n hx hb dX0_push_41 rfl (lv_at hl 1 rfl) ?_
    refine zxG_pc C hP dX0_push_42 ?_
    refine lv_iload_n hx hb dX0_push_45 rfl (lv_at hl 3 rfl) ?_
    refine lv_iadd hx hb dX0_push_46 ?_
    refine lv_iload_n hx hb dX0_push_47 rfl (lv_at hl 4 rfl) ?_
    refine zxK_finish C hP hS hl.1 (by decide) (Nat.le_of_ble_eq_true rfl) dX0_push_48 (fun u5 H locs hu5 hP hS => ?_)
    exact zx_vret C hr hlk hP hS (by subst hu5 hu4 hu3 hu2; exact (if_neg c1).trans (rfl)) dX0_push_51
  · refine lv_aload_n hx hb dX0_push_16 rfl (lv_at hl 1 rfl) ?_
    refine zxK_fault C hP hS hl.1 (by decide) (Nat.le_of_ble_eq_true rfl) dX0_push_17 (fun u6 H locs hu6 hP hS => ?_)
    exact zx_vret C hr hlk hP hS (by subst hu6; exact (if_pos c1).trans (rfl)) dX0_push_20
section
variable {p : Program} {l : Launch} {e : Env} {R : Room} {s : State} {m : MethodId} {args : Array Value} {below : List Frame} {meth : Method} {c : Code} {H : Heap} {locs : List Loc} {Q : State → Prop} {cc : ByteArray} {pc nL : Nat} {ls : Array Slot} {rest : List Value} {k : Zxk} {u : Zxs} {H0 : Heap}
set_option maxHeartbeats 4000000 in
set_option maxRecDepth 100000 in
theorem zxK_push {a1 a2 a3 : Int32} (C : ZxC p s m args c cc nL k) (hP : ZxP k u H) (hS : va_S (ZxA k) H0 H locs) (hsz : ls.size = nL) (hR : 1 + 1 ≤ R.frames ∧ 8 + (5 + 11) + 40 * 1 ≤ R.locals) (hw : (rest.map fun v => v.category).sum ≤ 8) (hdg : decode cc pc = .ok (.invokevirtual 89, 3)) (kk : ∀ (u1 : Zxs) (H1 : Heap) (locs1 : List Loc), u1 = zx_push u a1 a2 a3 → ZxP k u1 H1 → va_S (ZxA k) H0 H1 locs1 → W p l e R s m args below meth c H1 locs1 0 0 Q (F0 m (pc + 3) ls (rest))) : W p l e R s m args below meth c H locs 0 0 Q (F0 m pc ls (.int a3 :: .int a2 :: .int a1 :: .ref (zxa_this k) :: rest)) :=
  zx_callV (y := yX0_push) (n := 3) (As := [.int a1, .int a2, .int a3]) C (zxM_push l k C.2.2 u a1 a2 a3 ) wsX0_step_c_push wsX0_step_l_push wsX0_step_i_push wsX0_step_v_push rfl (by decide +kernel) hP hS hsz hR hw rfl hdg (fun H1 locs1 hP1 hS1 => kk _ H1 locs1 rfl hP1 hS1)
end
def zx_pop (u : Zxs) : Zxs :=
  if (zx_isWord ((zxg_sp u) - 1)) = 0 then (
    let u5 := zx_fault u
    u5)
  else (
    let u2 := zxs_sp u ((zxg_sp u) - 1)
    let u3 := zxs_top u2 (zxg_words u2 ((zxg_sp u) - 1).toNatClampNeg)
    let u4 := zx_finish u3 ((zxg_pc u3) + 1) 4
    u4)
set_option maxHeartbeats 4000000 in
set_option maxRecDepth 100000 in
theorem zxM_pop (l : Launch) (k : Zxk) (Dk : ZxD k) (u : Zxs) : Met l yX0_pop (.code yX0_pop cX0_pop 2 none :: wsX0_step) (zrm 1) (ZxB k [.ref (zxa_this k)] u) (ZxQ k none (zx_pop u )) 0 0 (ZxA k) := by
  refine zxE_in (by decide) rfl (Nat.le_of_ble_eq_true rfl) Dk ?_
  intro p e s m below meth c ls C hr hlk hP hl
  have hx := C.1.1
  have hb := C.1.2.1
  have hl : lv_has ls 2 [(0, .ref (zxa_this k))] := hl
  have hS : va_S (ZxA k) s.heap s.heap [] := va_S.rf
  refine lv_aload_n hx hb dX0_pop_0 rfl (lv_at hl 0 rfl) ?_
  refine zxG_sp C hP dX0_pop_1 ?_
  refine lv_iconst (v := 1) hx hb dX0_pop_4 (by decide) ?_
  refine lv_isub hx hb dX0_pop_5 ?_
  refine lv_istore_n (lv' := [(1, .int ((zxg_sp u) - 1)), (0, .ref (zxa_this k))]) hx hb dX0_pop_6 rfl hl (by decide) rfl (fun ls hl => ?_)
  refine lv_iload_n hx hb dX0_pop_7 rfl (lv_at hl 0 rfl) ?_
  refine zxK_isWord C hl.1 (by decide) (Nat.le_of_ble_eq_true rfl) dX0_pop_8 ?_
  refine lv_if_ne (tgt := 19) hx hb dX0_pop_11 (by decide) (fun c1 => ?_) (fun c1 => ?_)
  · refine lv_aload_n hx hb dX0_pop_19 rfl (lv_at hl 1 rfl) ?_
    refine lv_iload_n hx hb dX0_pop_20 rfl (lv_at hl 0 rfl) ?_
    refine zxP_sp C hP hS dX0_pop_21 (fun u2 H locs hu2 hP hS => ?_)
    refine lv_aload_n hx hb dX0_pop_24 rfl (lv_at hl 1 rfl) ?_
    refine lv_aload_n hx hb dX0_pop_25 rfl (lv_at hl 1 rfl) ?_
    refine zxG_words C hP dX0_pop_26 ?_
    refine lv_iload_n hx hb dX0_pop_29 rfl (lv_at hl 0 rfl) ?_
    refine zxL_words C hP (by first | with_reducible assumption | with_reducible exact zx_in (by with_reducible assumption) | with_reducible exact zx_b10 (by with_reducible assumption) | with_reducible exact zx_b21 (by with_reducible assumption) | with_reducible exact zx_b31 (by with_reducible assumption) | with_reducible exact zx_b32 (by with_reducible assumption) | with_reducible exact zx_b42 (by with_reducible assumption) | with_reducible exact zx_b43 (by with_reducible assumption) | with_reducible exact zx_b33 (by with_reducible assumption) | with_reducible exact zx_b40 (by with_reducible assumption) | with_reducible exact zx_b41 (by with_reducible assumption)) dX0_pop_30 ?_
    refine zxP_top C hP hS dX0_pop_31 (fun u3 H locs hu3 hP hS => ?_)
    refine lv_aload_n hx hb dX0_pop_34 rfl (lv_at hl 1 rfl) ?_
    refine lv_aload_n hx hb dX0_pop_35 rfl (lv_at hl 1 rfl) ?_
    refine zxG_pc C hP dX0_pop_36 ?_
    refine lv_iconst (v := 1) hx hb dX0_pop_39 (by decide) ?_
    refine lv_iadd hx hb dX0_pop_40 ?_
    refine lv_iconst (v := 4) hx hb dX0_pop_41 (by decide) ?_
    refine zxK_finish C hP hS hl.1 (by decide) (Nat.le_of_ble_eq_true rfl) dX0_pop_42 (fun u4 H locs hu4 hP hS => ?_)
    exact zx_vret C hr hlk hP hS (by subst hu4 hu3 hu2; exact (if_neg c1).trans (rfl)) dX0_pop_45
  · refine lv_aload_n hx hb dX0_pop_14 rfl (lv_at hl 1 rfl) ?_
    refine zxK_fault C hP hS hl.1 (by decide) (Nat.le_of_ble_eq_true rfl) dX0_pop_15 (fun u5 H locs hu5 hP hS => ?_)
    exact zx_vret C hr hlk hP hS (by subst hu5; exact (if_pos c1).trans (rfl)) dX0_pop_18
section
variable {p : Program} {l : Launch} {e : Env} {R : Room} {s : State} {m : MethodId} {args : Array Value} {below : List Frame} {meth : Method} {c : Code} {H : Heap} {locs : List Loc} {Q : State → Prop} {cc : ByteArray} {pc nL : Nat} {ls : Array Slot} {rest : List Value} {k : Zxk} {u : Zxs} {H0 : Heap}
set_option maxHeartbeats 4000000 in
set_option maxRecDepth 100000 in
theorem zxK_pop (C : ZxC p s m args c cc nL k) (hP : ZxP k u H) (hS : va_S (ZxA k) H0 H locs) (hsz : ls.size = nL) (hR : 1 + 1 ≤ R.frames ∧ 8 + (2 + 11) + 40 * 1 ≤ R.locals) (hw : (rest.map fun v => v.category).sum ≤ 8) (hdg : decode cc pc = .ok (.invokevirtual 93, 3)) (kk : ∀ (u1 : Zxs) (H1 : Heap) (locs1 : List Loc), u1 = zx_pop u  → ZxP k u1 H1 → va_S (ZxA k) H0 H1 locs1 → W p l e R s m args below meth c H1 locs1 0 0 Q (F0 m (pc + 3) ls (rest))) : W p l e R s m args below meth c H locs 0 0 Q (F0 m pc ls (.ref (zxa_this k) :: rest)) :=
  zx_callV (y := yX0_pop) (n := 0) (As := []) C (zxM_pop l k C.2.2 u  ) wsX0_step_c_pop wsX0_step_l_pop wsX0_step_i_pop wsX0_step_v_pop rfl (by decide +kernel) hP hS hsz hR hw rfl hdg (fun H1 locs1 hP1 hS1 => kk _ H1 locs1 rfl hP1 hS1)
end
def zx_swap (u : Zxs) : Zxs :=
  if (zx_isWord (zxg_sp u)) = 0 then (
    let u2 := zx_fault u
    u2)
  else (
    if (zx_isWord ((zxg_sp u) - 1)) = 0 then (
      let u8 := zx_fault u
      u8)
    else (
      let u4 := zxs_words u (upd (zxg_words u) (zxg_sp u).toNatClampNeg (zxg_words u ((zxg_sp u) - 1).toNatClampNeg))
      let u5 := zxs_words u4 (upd (zxg_words u4) ((zxg_sp u) - 1).toNatClampNeg (zxg_top u4))
      let u6 := zxs_top u5 (zxg_words u ((zxg_sp u) - 1).toNatClampNeg)
      let u7 := zx_finish u6 ((zxg_pc u6) + 1) 7
      u7))
set_option maxHeartbeats 4000000 in
set_option maxRecDepth 100000 in
theorem zxM_swap (l : Launch) (k : Zxk) (Dk : ZxD k) (u : Zxs) : Met l yX0_swap (.code yX0_swap cX0_swap 3 none :: wsX0_step) (zrm 1) (ZxB k [.ref (zxa_this k)] u) (ZxQ k none (zx_swap u )) 0 0 (ZxA k) := by
  refine zxE_in (by decide) rfl (Nat.le_of_ble_eq_true rfl) Dk ?_
  intro p e s m below meth c ls C hr hlk hP hl
  have hx := C.1.1
  have hb := C.1.2.1
  have hl : lv_has ls 3 [(0, .ref (zxa_this k))] := hl
  have hS : va_S (ZxA k) s.heap s.heap [] := va_S.rf
  refine lv_aload_n hx hb dX0_swap_0 rfl (lv_at hl 0 rfl) ?_
  refine zxG_sp C hP dX0_swap_1 ?_
  refine lv_iconst (v := 1) hx hb dX0_swap_4 (by decide) ?_
  refine lv_isub hx hb dX0_swap_5 ?_
  refine lv_istore_n (lv' := [(1, .int ((zxg_sp u) - 1)), (0, .ref (zxa_this k))]) hx hb dX0_swap_6 rfl hl (by decide) rfl (fun ls hl => ?_)
  refine lv_aload_n hx hb dX0_swap_7 rfl (lv_at hl 1 rfl) ?_
  refine zxG_sp C hP dX0_swap_8 ?_
  refine zxK_isWord C hl.1 (by decide) (Nat.le_of_ble_eq_true rfl) dX0_swap_11 ?_
  refine lv_if_eq (tgt := 24) hx hb dX0_swap_14 (by decide) (fun c1 => ?_) (fun c1 => ?_)
  · refine lv_aload_n hx hb dX0_swap_24 rfl (lv_at hl 1 rfl) ?_
    refine zxK_fault C hP hS hl.1 (by decide) (Nat.le_of_ble_eq_true rfl) dX0_swap_25 (fun u2 H locs hu2 hP hS => ?_)
    exact zx_vret C hr hlk hP hS (by subst hu2; exact (if_pos c1).trans (rfl)) dX0_swap_28
  · refine lv_iload_n hx hb dX0_swap_17 rfl (lv_at hl 0 rfl) ?_
    refine zxK_isWord C hl.1 (by decide) (Nat.le_of_ble_eq_true rfl) dX0_swap_18 ?_
    refine lv_if_ne (tgt := 29) hx hb dX0_swap_21 (by decide) (fun c3 => ?_) (fun c3 => ?_)
    · refine lv_aload_n hx hb dX0_swap_29 rfl (lv_at hl 1 rfl) ?_
      refine zxG_words C hP dX0_swap_30 ?_
      refine lv_iload_n hx hb dX0_swap_33 rfl (lv_at hl 0 rfl) ?_
      refine zxL_words C hP (by first | with_reducible assumption | with_reducible exact zx_in (by with_reducible assumption) | with_reducible exact zx_b10 (by with_reducible assumption) | with_reducible exact zx_b21 (by with_reducible assumption) | with_reducible exact zx_b31 (by with_reducible assumption) | with_reducible exact zx_b32 (by with_reducible assumption) | with_reducible exact zx_b42 (by with_reducible assumption) | with_reducible exact zx_b43 (by with_reducible assumption) | with_reducible exact zx_b33 (by with_reducible assumption) | with_reducible exact zx_b40 (by with_reducible assumption) | with_reducible exact zx_b41 (by with_reducible assumption)) dX0_swap_34 ?_
      refine lv_istore_n (lv' := [(2, .int (zxg_words u ((zxg_sp u) - 1).toNatClampNeg)), (1, .int ((zxg_sp u) - 1)), (0, .ref (zxa_this k))]) hx hb dX0_swap_35 rfl hl (by decide) rfl (fun ls hl => ?_)
      refine lv_aload_n hx hb dX0_swap_36 rfl (lv_at hl 2 rfl) ?_
      refine zxG_words C hP dX0_swap_37 ?_
      refine lv_aload_n hx hb dX0_swap_40 rfl (lv_at hl 2 rfl) ?_
      refine zxG_sp C hP dX0_swap_41 ?_
      refine lv_iload_n hx hb dX0_swap_44 rfl (lv_at hl 0 rfl) ?_
      refine zxS_words C hP hS (by first | with_reducible assumption | with_reducible exact zx_in (by with_reducible assumption) | with_reducible exact zx_b10 (by with_reducible assumption) | with_reducible exact zx_b21 (by with_reducible assumption) | with_reducible exact zx_b31 (by with_reducible assumption) | with_reducible exact zx_b32 (by with_reducible assumption) | with_reducible exact zx_b42 (by with_reducible assumption) | with_reducible exact zx_b43 (by with_reducible assumption) | with_reducible exact zx_b33 (by with_reducible assumption) | with_reducible exact zx_b40 (by with_reducible assumption) | with_reducible exact zx_b41 (by with_reducible assumption)) dX0_swap_45 (fun u4 H locs hu4 hP hS => ?_)
      refine lv_aload_n hx hb dX0_swap_46 rfl (lv_at hl 2 rfl) ?_
      refine zxG_words C hP dX0_swap_47 ?_
      refine lv_iload_n hx hb dX0_swap_50 rfl (lv_at hl 1 rfl) ?_
      refine lv_aload_n hx hb dX0_swap_51 rfl (lv_at hl 2 rfl) ?_
      refine zxG_top C hP dX0_swap_52 ?_
      refine zxS_words C hP hS (by first | with_reducible assumption | with_reducible exact zx_in (by with_reducible assumption) | with_reducible exact zx_b10 (by with_reducible assumption) | with_reducible exact zx_b21 (by with_reducible assumption) | with_reducible exact zx_b31 (by with_reducible assumption) | with_reducible exact zx_b32 (by with_reducible assumption) | with_reducible exact zx_b42 (by with_reducible assumption) | with_reducible exact zx_b43 (by with_reducible assumption) | with_reducible exact zx_b33 (by with_reducible assumption) | with_reducible exact zx_b40 (by with_reducible assumption) | with_reducible exact zx_b41 (by with_reducible assumption)) dX0_swap_55 (fun u5 H locs hu5 hP hS => ?_)
      refine lv_aload_n hx hb dX0_swap_56 rfl (lv_at hl 2 rfl) ?_
      refine lv_iload_n hx hb dX0_swap_57 rfl (lv_at hl 0 rfl) ?_
      refine zxP_top C hP hS dX0_swap_58 (fun u6 H locs hu6 hP hS => ?_)
      refine lv_aload_n hx hb dX0_swap_61 rfl (lv_at hl 2 rfl) ?_
      refine lv_aload_n hx hb dX0_swap_62 rfl (lv_at hl 2 rfl) ?_
      refine zxG_pc C hP dX0_swap_63 ?_
      refine lv_iconst (v := 1) hx hb dX0_swap_66 (by decide) ?_
      refine lv_iadd hx hb dX0_swap_67 ?_
      refine lv_bipush (v := 7) hx hb dX0_swap_68 (by decide) ?_
      refine zxK_finish C hP hS hl.1 (by decide) (Nat.le_of_ble_eq_true rfl) dX0_swap_70 (fun u7 H locs hu7 hP hS => ?_)
      exact zx_vret C hr hlk hP hS (by subst hu7 hu6 hu5 hu4; exact (if_neg c1).trans ((if_neg c3).trans (rfl))) dX0_swap_73
    · refine lv_aload_n hx hb dX0_swap_24 rfl (lv_at hl 1 rfl) ?_
      refine zxK_fault C hP hS hl.1 (by decide) (Nat.le_of_ble_eq_true rfl) dX0_swap_25 (fun u8 H locs hu8 hP hS => ?_)
      exact zx_vret C hr hlk hP hS (by subst hu8; exact (if_neg c1).trans ((if_pos c3).trans (rfl))) dX0_swap_28
section
variable {p : Program} {l : Launch} {e : Env} {R : Room} {s : State} {m : MethodId} {args : Array Value} {below : List Frame} {meth : Method} {c : Code} {H : Heap} {locs : List Loc} {Q : State → Prop} {cc : ByteArray} {pc nL : Nat} {ls : Array Slot} {rest : List Value} {k : Zxk} {u : Zxs} {H0 : Heap}
set_option maxHeartbeats 4000000 in
set_option maxRecDepth 100000 in
theorem zxK_swap (C : ZxC p s m args c cc nL k) (hP : ZxP k u H) (hS : va_S (ZxA k) H0 H locs) (hsz : ls.size = nL) (hR : 1 + 1 ≤ R.frames ∧ 8 + (3 + 11) + 40 * 1 ≤ R.locals) (hw : (rest.map fun v => v.category).sum ≤ 8) (hdg : decode cc pc = .ok (.invokevirtual 96, 3)) (kk : ∀ (u1 : Zxs) (H1 : Heap) (locs1 : List Loc), u1 = zx_swap u  → ZxP k u1 H1 → va_S (ZxA k) H0 H1 locs1 → W p l e R s m args below meth c H1 locs1 0 0 Q (F0 m (pc + 3) ls (rest))) : W p l e R s m args below meth c H locs 0 0 Q (F0 m pc ls (.ref (zxa_this k) :: rest)) :=
  zx_callV (y := yX0_swap) (n := 0) (As := []) C (zxM_swap l k C.2.2 u  ) wsX0_step_c_swap wsX0_step_l_swap wsX0_step_i_swap wsX0_step_v_swap rfl (by decide +kernel) hP hS hsz hR hw rfl hdg (fun H1 locs1 hP1 hS1 => kk _ H1 locs1 rfl hP1 hS1)
end
def zx_combine (u : Zxs) (a1 : Int32) : Zxs :=
  if (zx_isWord ((zxg_sp u) - 1)) = 0 then (
    let u6 := zx_fault u
    u6)
  else (
    let u2 := zxs_top u (zx_combined a1 (zxg_words u ((zxg_sp u) - 1).toNatClampNeg) (zxg_top u))
    let u3 := zxs_words u2 (upd (zxg_words u2) ((zxg_sp u) - 1).toNatClampNeg (zxg_top u2))
    let u4 := zxs_sp u3 ((zxg_sp u) - 1)
    let u5 := zx_finish u4 ((zxg_pc u4) + 1) 4
    u5)
set_option maxHeartbeats 4000000 in
set_option maxRecDepth 100000 in
theorem zxM_combine (l : Launch) (k : Zxk) (Dk : ZxD k) (u : Zxs) (a1 : Int32) : Met l yX0_combine (.code yX0_combine cX0_combine 3 none :: wsX0_step) (zrm 1) (ZxB k [.ref (zxa_this k), .int a1] u) (ZxQ k none (zx_combine u a1)) 0 0 (ZxA k) := by
  refine zxE_in (by decide) rfl (Nat.le_of_ble_eq_true rfl) Dk ?_
  intro p e s m below meth c ls C hr hlk hP hl
  have hx := C.1.1
  have hb := C.1.2.1
  have hl : lv_has ls 3 [(0, .ref (zxa_this k)), (1, .int a1)] := hl
  have hS : va_S (ZxA k) s.heap s.heap [] := va_S.rf
  refine lv_aload_n hx hb dX0_combine_0 rfl (lv_at hl 0 rfl) ?_
  refine zxG_sp C hP dX0_combine_1 ?_
  refine lv_iconst (v := 1) hx hb dX0_combine_4 (by decide) ?_
  refine lv_isub hx hb dX0_combine_5 ?_
  refine lv_istore_n (lv' := [(2, .int ((zxg_sp u) - 1)), (0, .ref (zxa_this k)), (1, .int a1)]) hx hb dX0_combine_6 rfl hl (by decide) rfl (fun ls hl => ?_)
  refine lv_iload_n hx hb dX0_combine_7 rfl (lv_at hl 0 rfl) ?_
  refine zxK_isWord C hl.1 (by decide) (Nat.le_of_ble_eq_true rfl) dX0_combine_8 ?_
  refine lv_if_ne (tgt := 19) hx hb dX0_combine_11 (by decide) (fun c1 => ?_) (fun c1 => ?_)
  · refine lv_aload_n hx hb dX0_combine_19 rfl (lv_at hl 1 rfl) ?_
    refine lv_iload_n hx hb dX0_combine_20 rfl (lv_at hl 2 rfl) ?_
    refine lv_aload_n hx hb dX0_combine_21 rfl (lv_at hl 1 rfl) ?_
    refine zxG_words C hP dX0_combine_22 ?_
    refine lv_iload_n hx hb dX0_combine_25 rfl (lv_at hl 0 rfl) ?_
    refine zxL_words C hP (by first | with_reducible assumption | with_reducible exact zx_in (by with_reducible assumption) | with_reducible exact zx_b10 (by with_reducible assumption) | with_reducible exact zx_b21 (by with_reducible assumption) | with_reducible exact zx_b31 (by with_reducible assumption) | with_reducible exact zx_b32 (by with_reducible assumption) | with_reducible exact zx_b42 (by with_reducible assumption) | with_reducible exact zx_b43 (by with_reducible assumption) | with_reducible exact zx_b33 (by with_reducible assumption) | with_reducible exact zx_b40 (by with_reducible assumption) | with_reducible exact zx_b41 (by with_reducible assumption)) dX0_combine_26 ?_
    refine lv_aload_n hx hb dX0_combine_27 rfl (lv_at hl 1 rfl) ?_
    refine zxG_top C hP dX0_combine_28 ?_
    refine zxK_combined C hl.1 (by decide) (Nat.le_of_ble_eq_true rfl) dX0_combine_31 ?_
    refine zxP_top C hP hS dX0_combine_34 (fun u2 H locs hu2 hP hS => ?_)
    refine lv_aload_n hx hb dX0_combine_37 rfl (lv_at hl 1 rfl) ?_
    refine zxG_words C hP dX0_combine_38 ?_
    refine lv_iload_n hx hb dX0_combine_41 rfl (lv_at hl 0 rfl) ?_
    refine lv_aload_n hx hb dX0_combine_42 rfl (lv_at hl 1 rfl) ?_
    refine zxG_top C hP dX0_combine_43 ?_
    refine zxS_words C hP hS (by first | with_reducible assumption | with_reducible exact zx_in (by with_reducible assumption) | with_reducible exact zx_b10 (by with_reducible assumption) | with_reducible exact zx_b21 (by with_reducible assumption) | with_reducible exact zx_b31 (by with_reducible assumption) | with_reducible exact zx_b32 (by with_reducible assumption) | with_reducible exact zx_b42 (by with_reducible assumption) | with_reducible exact zx_b43 (by with_reducible assumption) | with_reducible exact zx_b33 (by with_reducible assumption) | with_reducible exact zx_b40 (by with_reducible assumption) | with_reducible exact zx_b41 (by with_reducible assumption)) dX0_combine_46 (fun u3 H locs hu3 hP hS => ?_)
    refine lv_aload_n hx hb dX0_combine_47 rfl (lv_at hl 1 rfl) ?_
    refine lv_iload_n hx hb dX0_combine_48 rfl (lv_at hl 0 rfl) ?_
    refine zxP_sp C hP hS dX0_combine_49 (fun u4 H locs hu4 hP hS => ?_)
    refine lv_aload_n hx hb dX0_combine_52 rfl (lv_at hl 1 rfl) ?_
    refine lv_aload_n hx hb dX0_combine_53 rfl (lv_at hl 1 rfl) ?_
    refine zxG_pc C hP dX0_combine_54 ?_
    refine lv_iconst (v := 1) hx hb dX0_combine_57 (by decide) ?_
    refine lv_iadd hx hb dX0_combine_58 ?_
    refine lv_iconst (v := 4) hx hb dX0_combine_59 (by decide) ?_
    refine zxK_finish C hP hS hl.1 (by decide) (Nat.le_of_ble_eq_true rfl) dX0_combine_60 (fun u5 H locs hu5 hP hS => ?_)
    exact zx_vret C hr hlk hP hS (by subst hu5 hu4 hu3 hu2; exact (if_neg c1).trans (rfl)) dX0_combine_63
  · refine lv_aload_n hx hb dX0_combine_14 rfl (lv_at hl 1 rfl) ?_
    refine zxK_fault C hP hS hl.1 (by decide) (Nat.le_of_ble_eq_true rfl) dX0_combine_15 (fun u6 H locs hu6 hP hS => ?_)
    exact zx_vret C hr hlk hP hS (by subst hu6; exact (if_pos c1).trans (rfl)) dX0_combine_18
section
variable {p : Program} {l : Launch} {e : Env} {R : Room} {s : State} {m : MethodId} {args : Array Value} {below : List Frame} {meth : Method} {c : Code} {H : Heap} {locs : List Loc} {Q : State → Prop} {cc : ByteArray} {pc nL : Nat} {ls : Array Slot} {rest : List Value} {k : Zxk} {u : Zxs} {H0 : Heap}
set_option maxHeartbeats 4000000 in
set_option maxRecDepth 100000 in
theorem zxK_combine {a1 : Int32} (C : ZxC p s m args c cc nL k) (hP : ZxP k u H) (hS : va_S (ZxA k) H0 H locs) (hsz : ls.size = nL) (hR : 1 + 1 ≤ R.frames ∧ 8 + (3 + 11) + 40 * 1 ≤ R.locals) (hw : (rest.map fun v => v.category).sum ≤ 8) (hdg : decode cc pc = .ok (.invokevirtual 85, 3)) (kk : ∀ (u1 : Zxs) (H1 : Heap) (locs1 : List Loc), u1 = zx_combine u a1 → ZxP k u1 H1 → va_S (ZxA k) H0 H1 locs1 → W p l e R s m args below meth c H1 locs1 0 0 Q (F0 m (pc + 3) ls (rest))) : W p l e R s m args below meth c H locs 0 0 Q (F0 m pc ls (.int a1 :: .ref (zxa_this k) :: rest)) :=
  zx_callV (y := yX0_combine) (n := 1) (As := [.int a1]) C (zxM_combine l k C.2.2 u a1 ) wsX0_step_c_combine wsX0_step_l_combine wsX0_step_i_combine wsX0_step_v_combine rfl (by decide +kernel) hP hS hsz hR hw rfl hdg (fun H1 locs1 hP1 hS1 => kk _ H1 locs1 rfl hP1 hS1)
end
