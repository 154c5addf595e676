
section
variable {p : Program} {l : Launch} {e : Env} {R : Room} {s : State} {m : MethodId} {args : Array Value} {below : List Frame} {meth : Method} {c : Code} {H : Heap} {locs : List Loc} {cells slots : Nat} {Q : State → Prop} {cc : ByteArray} {pc nL : Nat} {ls : Array Slot} {rest : List Value} {k : Zxk} {u : Zxs} {H0 : Heap} {Ts ws : List Cond} {own : String} {rm : Room}
/-- a call on the object from anywhere -/
theorem zx_callF {y : MethodName} {bytes : ByteArray} {maxL index n : Nat} {ret : Option FieldType} {v : Option Value} {u' : Zxs} {As : List Value} {A0 : Nat → Prop} (S : CallFix p m c cc nL s args Ts own) (K : ZxK k s) (hM : Met l y ws rm (ZxB k (.ref (zxa_this k) :: As) u) (ZxQ k v u') 0 0 (ZxA k))
    (cw : CallW R s args own RX0 index y bytes maxL ret ws rm 0 0 n) (hP : ZxP k u H) (hA : ∀ q, ZxA k q → A0 q) (hS : va_S A0 H0 H locs) (hsz : ls.size = nL) (hw : (rest.map fun v => v.category).sum ≤ 8) (hn : As.length = n) (hdg : decode cc pc = .ok (.invokevirtual index, 3)) (hf : cells ≤ R.cells ∧ slots ≤ R.slots)
    (kk : ∀ (H1 : Heap) (locs1 : List Loc), ZxP k u' H1 → H.size ≤ H1.size → (∀ q : Nat, q < H.size → ¬ ZxA k q → H1[q]? = H[q]?) → va_S A0 H0 H1 locs1 → W p l e R s m args below meth c H1 locs1 cells slots Q (F0 m (pc + 3) ls (v.toList ++ rest))) : W p l e R s m args below meth c H locs cells slots Q (F0 m pc ls (As.reverse ++ .ref (zxa_this k) :: rest)) := by
  intro T hT X
  have hp : PreV s H RX0 (zxa_this k) (ZxB k (.ref (zxa_this k) :: As) u) As := ⟨zx_blind, va_recv K hP (ci := 0) (q := (RX0, TX0, 10)) (q0 := 0) rfl rfl, fun U hU hW => ⟨rfl, by rw [hU]; exact hP, va_K.moved hW.alike K⟩⟩
  obtain ⟨v', st₀, t, T', L, h0, X', hL, e1, e2, ⟨hv, hPt, hz, hk⟩, st⟩ := va_runV (rest := rest) S hM cw hp (g := F0 m pc ls (As.reverse ++ .ref (zxa_this k) :: rest)) rfl hn hsz rfl (lv_room hw) hdg ⟨hf.1, hf.2⟩ T hT X
  cases hv
  rw [h0] at hz hk
  obtain ⟨t2, a1, b1⟩ := kk T'.heap (locs ++ L) (by rw [e1]; exact hPt) (by rw [e1]; exact hz) (fun q g1 g2 => by rw [e1]; exact hk q g1 g2)
    ⟨Nat.le_trans hS.1 (by rw [e1]; exact hz), fun q g1 g2 => by rw [e1, hk q (Nat.lt_of_lt_of_le g1 hS.1) (fun g => g2 (hA q g))]; exact hS.2.1 q g1 g2, fun q hq => by
      rcases List.mem_append.mp hq with h | h
      · exact hS.2.2 q h
      · exact hA _ (hL q h)⟩ T' rfl X'
  exact ⟨t2, st t2 a1, b1⟩
theorem zx_callFR {y : MethodName} {bytes : ByteArray} {maxL index n : Nat} {ret : Option FieldType} {r : Int32} {As : List Value} (S : CallFix p m c cc nL s args Ts own) (K : ZxK k s) (hM : Met l y ws rm (ZxB k (.ref (zxa_this k) :: As) u) (QcRead r) 0 0 (fun _ => False))
    (cw : CallW R s args own RX0 index y bytes maxL ret ws rm 0 0 n) (hP : ZxP k u H) (hsz : ls.size = nL) (hw : (rest.map fun v => v.category).sum ≤ 8) (hn : As.length = n) (hdg : decode cc pc = .ok (.invokevirtual index, 3)) (hf : cells ≤ R.cells ∧ slots ≤ R.slots)
    (kk : W p l e R s m args below meth c H locs cells slots Q (F0 m (pc + 3) ls (.int r :: rest))) : W p l e R s m args below meth c H locs cells slots Q (F0 m pc ls (As.reverse ++ .ref (zxa_this k) :: rest)) :=
  W.callR (W.runV S hM cw ⟨zx_blind, va_recv K hP (ci := 0) (q := (RX0, TX0, 10)) (q0 := 0) rfl rfl, fun U hU hW => ⟨rfl, by rw [hU]; exact hP, va_K.moved hW.alike K⟩⟩ rfl hn hsz rfl (lv_room hw) hdg ⟨hf.1, hf.2⟩) kk
end

section
variable {p : Program} {l : Launch} {e : Env} {R : Room} {s : State} {m : MethodId} {args : Array Value} {below : List Frame} {meth : Method} {c : Code} {H : Heap} {locs : List Loc} {cells slots : Nat} {Q : State → Prop} {cc : ByteArray} {pc nL : Nat} {ls : Array Slot} {rest : List Value} {k : Ztk} {u : Zts} {H0 : Heap} {Ts ws : List Cond} {own : String} {rm : Room}
/-- a call on the object from anywhere -/
theorem zt_callF {y : MethodName} {bytes : ByteArray} {maxL index n : Nat} {ret : Option FieldType} {v : Option Value} {u' : Zts} {As : List Value} {A0 : Nat → Prop} (S : CallFix p m c cc nL s args Ts own) (K : ZtK k s) (hM : Met l y ws rm (ZtB k (.ref (zta_this k) :: As) u) (ZtQ k v u') 0 0 (ZtA k))
    (cw : CallW R s args own RX1 index y bytes maxL ret ws rm 0 0 n) (hP : ZtP k u H) (hA : ∀ q, ZtA k q → A0 q) (hS : va_S A0 H0 H locs) (hsz : ls.size = nL) (hw : (rest.map fun v => v.category).sum ≤ 8) (hn : As.length = n) (hdg : decode cc pc = .ok (.invokevirtual index, 3)) (hf : cells ≤ R.cells ∧ slots ≤ R.slots)
    (kk : ∀ (H1 : Heap) (locs1 : List Loc), ZtP k u' H1 → H.size ≤ H1.size → (∀ q : Nat, q < H.size → ¬ ZtA k q → H1[q]? = H[q]?) → va_S A0 H0 H1 locs1 → W p l e R s m args below meth c H1 locs1 cells slots Q (F0 m (pc + 3) ls (v.toList ++ rest))) : W p l e R s m args below meth c H locs cells slots Q (F0 m pc ls (As.reverse ++ .ref (zta_this k) :: rest)) := by
  intro T hT X
  have hp : PreV s H RX1 (zta_this k) (ZtB k (.ref (zta_this k) :: As) u) As := ⟨zt_blind, va_recv K hP (ci := 1) (q := (RX1, TX1, 17)) (q0 := 0) rfl rfl, fun U hU hW => ⟨rfl, by rw [hU]; exact hP, va_K.moved hW.alike K⟩⟩
  obtain ⟨v', st₀, t, T', L, h0, X', hL, e1, e2, ⟨hv, hPt, hz, hk⟩, st⟩ := va_runV (rest := rest) S hM cw hp (g := F0 m pc ls (As.reverse ++ .ref (zta_this k) :: rest)) rfl hn hsz rfl (lv_room hw) hdg ⟨hf.1, hf.2⟩ T hT X
  cases hv
  rw [h0] at hz hk
  obtain ⟨t2, a1, b1⟩ := kk T'.heap (locs ++ L) (by rw [e1]; exact hPt) (by rw [e1]; exact hz) (fun q g1 g2 => by rw [e1]; exact hk q g1 g2)
    ⟨Nat.le_trans hS.1 (by rw [e1]; exact hz), fun q g1 g2 => by rw [e1, hk q (Nat.lt_of_lt_of_le g1 hS.1) (fun g => g2 (hA q g))]; exact hS.2.1 q g1 g2, fun q hq => by
      rcases List.mem_append.mp hq with h | h
      · exact hS.2.2 q h
      · exact hA _ (hL q h)⟩ T' rfl X'
  exact ⟨t2, st t2 a1, b1⟩
theorem zt_callFR {y : MethodName} {bytes : ByteArray} {maxL index n : Nat} {ret : Option FieldType} {r : Int32} {As : List Value} (S : CallFix p m c cc nL s args Ts own) (K : ZtK k s) (hM : Met l y ws rm (ZtB k (.ref (zta_this k) :: As) u) (QcRead r) 0 0 (fun _ => False))
    (cw : CallW R s args own RX1 index y bytes maxL ret ws rm 0 0 n) (hP : ZtP k u H) (hsz : ls.size = nL) (hw : (rest.map fun v => v.category).sum ≤ 8) (hn : As.length = n) (hdg : decode cc pc = .ok (.invokevirtual index, 3)) (hf : cells ≤ R.cells ∧ slots ≤ R.slots)
    (kk : W p l e R s m args below meth c H locs cells slots Q (F0 m (pc + 3) ls (.int r :: rest))) : W p l e R s m args below meth c H locs cells slots Q (F0 m pc ls (As.reverse ++ .ref (zta_this k) :: rest)) :=
  W.callR (W.runV S hM cw ⟨zt_blind, va_recv K hP (ci := 1) (q := (RX1, TX1, 17)) (q0 := 0) rfl rfl, fun U hU hW => ⟨rfl, by rw [hU]; exact hP, va_K.moved hW.alike K⟩⟩ rfl hn hsz rfl (lv_room hw) hdg ⟨hf.1, hf.2⟩) kk
end
