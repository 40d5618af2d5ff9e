/-! ===== from the law's walk to the claim ===== -/
theorem law_framed {s t : State} {o : Outcome} {Lc : List Loc} {k n : Nat} (h : FrameEnd s o t Lc k n) (hk : k ≤ 600000) (hn : n ≤ 7302250) (hF : va_F (fun q : Nat => s.heap.size ≤ q) s t) : Framed s o t [] 600000 7302250 := by
  obtain ⟨h1, h2, h3⟩ := h
  obtain ⟨a1, a2, a3, a4, a5, a6⟩ := h3.mono hk hn
  refine ⟨h1, h2, a1, a2, a3, a4, a5, fun a c hc => ?_⟩
  have hlt : a < s.heap.size := (Array.getElem?_eq_some_iff.mp hc).1
  have e : t.heap[a]? = some c := by
    rw [hF.2 a hlt (Nat.not_le.mpr hlt)]; exact hc
  exact ⟨c, e, rfl, rfl, fun _ _ => rfl⟩
theorem law_room {s : State} {pl : Platform} {r r' : Room} (h : s.hasRoom pl r = true) (h1 : r'.frames ≤ r.frames) (h2 : r'.cells ≤ r.cells) (h3 : r'.slots ≤ r.slots) (h4 : r'.locals ≤ r.locals) : s.hasRoom pl r' = true := by
  simp only [State.hasRoom, Bool.and_eq_true, decide_eq_true_eq] at h ⊢
  obtain ⟨⟨⟨⟨g1, g2, g3, g4, g5, g6⟩, g7⟩, g8⟩, g9⟩ := h
  exact ⟨⟨⟨⟨by omega, by omega, by omega, by omega, by omega, g6⟩, by omega⟩, by omega⟩, g9⟩
theorem law_kn {s : State} {args : Array Value} (hts : ∀ w ∈ lw_tbl, w.before args s = true) {C : String} {T : u_T} {N n : Nat} (hin : ∀ w ∈ u_ws C T N, w ∈ lw_ok) (hi : Cond.instantiable C n ∈ lw_ok) : ∃ (cC : ClassId) (iS : Nat → Nat), u_Kn s C T N cC iS :=
  u_known hts (fun w hw => lw_ok_tbl _ (hin w hw)) (hts _ (lw_ok_tbl _ hi))
set_option maxRecDepth 100000 in
theorem law_nw : ∀ w ∈ aNW, w ∈ lw_tbl := by decide +kernel
set_option maxRecDepth 100000 in
theorem law_ao : Cond.arrayOver (.object RX1) ∈ lw_tbl := List.mem_of_getElem? (i := 60) (by decide +kernel)
set_option maxRecDepth 100000 in
theorem law_ai : Cond.arrayClass .int ∈ lw_tbl := lw_ok_tbl _ (by decide +kernel)
set_option maxRecDepth 100000 in
theorem law_aj : Cond.arrayClass .long ∈ lw_tbl := lw_ok_tbl _ (by decide +kernel)
theorem law_K {s : State} {args : Array Value} (l : Launch) (hts : ∀ w ∈ lw_tbl, w.before args s = true) : ∃ G : aG, G.1 = l ∧ aKx G s := by
  obtain ⟨c0, i0, k0⟩ := law_kn hts (C := RX0) (T := TX0) (N := 5) (n := 5) inX0 (lw_okI 206 (by decide +kernel) (by decide +kernel))
  obtain ⟨c1, i1, k1⟩ := law_kn hts (C := RX1) (T := TX1) (N := 4) (n := 4) inX1 (lw_okI 281 (by decide +kernel) (by decide +kernel))
  obtain ⟨c2, i2, k2⟩ := law_kn hts (C := RX2) (T := TX2) (N := 4) (n := 4) inX2 (lw_okI 259 (by decide +kernel) (by decide +kernel))
  obtain ⟨c3, i3, k3⟩ := law_kn hts (C := RX3) (T := TX3) (N := 3) (n := 3) inX3 (lw_okI 88 (by decide +kernel) (by decide +kernel))
  obtain ⟨c4, i4, k4⟩ := law_kn hts (C := RX5) (T := TX5) (N := 4) (n := 4) inX5 (lw_okI 251 (by decide +kernel) (by decide +kernel))
  obtain ⟨c5, i5, k5⟩ := law_kn hts (C := RX6) (T := TX6) (N := 2) (n := 2) inX6 (lw_okI 62 (by decide +kernel) (by decide +kernel))
  obtain ⟨c6, i6, k6⟩ := law_kn hts (C := RX7) (T := TX7) (N := 4) (n := 4) inX7 (lw_okI 270 (by decide +kernel) (by decide +kernel))
  obtain ⟨c7, i7, k7⟩ := law_kn hts (C := RX8) (T := TX8) (N := 1) (n := 1) inX8 (lw_okI 77 (by decide +kernel) (by decide +kernel))
  obtain ⟨c8, i8, k8⟩ := law_kn hts (C := RX9) (T := TX9) (N := 10) (n := 10) inX9 (lw_okI 52 (by decide +kernel) (by decide +kernel))
  obtain ⟨c9, i9, k9⟩ := law_kn hts (C := RX10) (T := TX10) (N := 15) (n := 15) inX10 (lw_okI 641 (by decide +kernel) (by decide +kernel))
  obtain ⟨cI, kI, pI, nI, fI, gI⟩ := Cond.arrayClass_spec (hts _ law_ai)
  obtain ⟨cJ, kJ, pJ, nJ, fJ, gJ⟩ := Cond.arrayClass_spec (hts _ law_aj)
  have hao := hts _ law_ao
  obtain ⟨pR, cR, kR, nR, oR, fR, gR, bR⟩ := Cond.arrayOver_spec hao
  refine ⟨(l, (fun c : Nat => [c0, c1, c2, c3, c4, c5, c6, c7, c8, c9].getD c c0), (fun c : Nat => [i0, i1, i2, i3, i4, i5, i6, i7, i8, i9].getD c i0), cI, cJ, cR), rfl, ⟨?_, ?_⟩, va_AO.of hao, ?_⟩
  · intro c q hq
    have hc : c < 10 := (List.getElem?_eq_some_iff.mp hq).1
    rcases (show c = 0 ∨ c = 1 ∨ c = 2 ∨ c = 3 ∨ c = 4 ∨ c = 5 ∨ c = 6 ∨ c = 7 ∨ c = 8 ∨ c = 9 by omega) with rfl | rfl | rfl | rfl | rfl | rfl | rfl | rfl | rfl | rfl
    · cases hq; exact k0
    · cases hq; exact k1
    · cases hq; exact k2
    · cases hq; exact k3
    · cases hq; exact k4
    · cases hq; exact k5
    · cases hq; exact k6
    · cases hq; exact k7
    · cases hq; exact k8
    · cases hq; exact k9
  · intro k q hq
    have hk : k < 3 := (List.getElem?_eq_some_iff.mp hq).1
    rcases (show k = 0 ∨ k = 1 ∨ k = 2 by omega) with rfl | rfl | rfl
    · cases hq
      exact ⟨fun n z => ⟨fun k h => (by cases h), kI, fI, pI, gI⟩, nI⟩
    · cases hq
      exact ⟨fun n z => ⟨fun k h => (by cases h), kJ, fJ, pJ, gJ⟩, nJ⟩
    · cases hq
      exact ⟨fun n z => ⟨fun k h => (by cases h), kR, fR, pR, gR⟩, kR, pR, fR, gR, nR, bR⟩
  · exact fun w hw => va_Nw.of (aNW_tables w hw) (hts _ (law_nw w hw))
theorem aWd.empty {G : aG} {A : Nat → Prop} {H : Heap} : aWd G A (fun _ => none) H := by
  refine ⟨[], fun k q hk => ?_, ⟨fun i j p q hp => ?_, fun k q hk => ?_⟩, fun a => by simp⟩
  · simp [va_pl] at hk
  · simp [va_pl] at hp
  · simp [va_pl] at hk
set_option maxHeartbeats 4000000 in
theorem law_W {p : Program} {e : Env} {s : State} {m : MethodId} {below : List Frame} {meth : Method} {c : Code} (l : Launch) {b N : Nat} {xs : Nat → Int32} (hN : N ≤ 2048) (hx : p.tables.exec = Jvm.exec) (hb : c.code = cL_law) (hr : meth.sig.returnType = some .boolean) (hml : c.maxLocals = 4) (hown : s.vm.findClass RL = some m.cls) (hts : ∀ w ∈ lw_tbl, w.before #[Value.ref b] s = true) (hX : va_X b N xs s s.heap) (hbl : b < s.heap.size) (hlocks : meth.locks = false) :
    W p l e room_1 s m #[Value.ref b] below meth c s.heap [] 0 0 (fun t => ∃ o, t.status = .running ∧ Ended t below o ∧ o = .returned (some (.int 1)) ∧ Framed s o t [] 600000 7302250) (entryFrame m ([Value.ref b] : List Value).toArray 4) := by
  obtain ⟨G, rfl, hK⟩ := law_K l hts
  have hl := lv_entry ([.ref b]) (n := 4) (Nat.le_of_ble_eq_true rfl)
  rw [lg_entry_eq]
  generalize (lg_sl ([.ref b]) ++ List.replicate (4 - (lg_sl ([.ref b])).length) Slot.unset).toArray = ls at hl ⊢
  intro T hT X
  have X' : Stand p G.1 e (aRm 10 1045 157302) s m #[Value.ref b] below meth c T [] 0 0 := { X with room := law_room X.room (by decide) (by decide) (by decide) (by decide) }
  obtain ⟨t, a1, o, b1, b2, ⟨⟨r, h', hq, hv, -, -, -⟩, hF⟩, Lc, b4, b5⟩ := lw_body (Z := (b, N, xs)) (G := G) hN p e s m #[Value.ref b] below meth c (fun q : Nat => s.heap.size ≤ q) s.heap ls [] ⟨hx, hb, hml, hr, hown, fun w hw => hts w (lw_ok_tbl w hw), hlocks, fun q => absurd q (by decide), hK⟩ ⟨hX, hbl, Nat.not_le.mpr hbl⟩ (fun _ q => q) aWd.empty va_S.rf (fun a e q => by cases q) (fun v q => by cases q) (fun q hq => by rcases List.mem_cons.mp hq with rfl | z <;> first | trivial | cases z) hl T hT X'
  have hq1 : r = some (vI 1) := hq
  subst hq1
  exact ⟨t, a1, o, b1, b2, hv, law_framed b4 (by decide) (by decide) hF⟩
