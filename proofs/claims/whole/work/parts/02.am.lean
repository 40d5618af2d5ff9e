/-! ===== AM: mathematical values, cells and heaps over the machine; the judgement EX (a frame runs to an end that meets Q) and MC (a method's contract) ===== -/
abbrev aV : Type := Sum Int (Sum Int (Option Nat))
abbrev vI (x : Int) : aV := Sum.inl x
abbrev vJ (x : Int) : aV := Sum.inr (Sum.inl x)
abbrev vR (r : Option Nat) : aV := Sum.inr (Sum.inr r)
abbrev vA (a : Nat) : aV := Sum.inr (Sum.inr (some a))
abbrev vN : aV := Sum.inr (Sum.inr none)
def cv : aV → Value
  | .inl x => .int (Int32.ofInt x)
  | .inr (.inl x) => .long (Int64.ofInt x)
  | .inr (.inr r) => va_rf r
def okI (x : Int) : Prop := -2147483648 ≤ x ∧ x ≤ 2147483647
def okJ (x : Int) : Prop := -9223372036854775808 ≤ x ∧ x ≤ 9223372036854775807
def okV : aV → Prop
  | .inl x => okI x
  | .inr (.inl x) => okJ x
  | .inr (.inr _) => True
abbrev aE : Type := Sum (Nat × (Nat → Int)) (Sum (Nat × (Nat → Int)) (Sum (Nat × (Nat → Option Nat)) (Nat × List aV)))
abbrev eI (n : Nat) (g : Nat → Int) : aE := Sum.inl (n, g)
abbrev eJ (n : Nat) (g : Nat → Int) : aE := Sum.inr (Sum.inl (n, g))
abbrev eR (n : Nat) (r : Nat → Option Nat) : aE := Sum.inr (Sum.inr (Sum.inl (n, r)))
abbrev eO (ci : Nat) (fs : List aV) : aE := Sum.inr (Sum.inr (Sum.inr (ci, fs)))
abbrev aG : Type := Launch × (Nat → ClassId) × (Nat → Nat → Nat) × ClassId × ClassId × ClassId
abbrev gD (G : aG) : va_G := (G.2.1, G.2.2.1)
abbrev gT (G : aG) : List (ClassId × FieldType) := [(G.2.2.2.1, .int), (G.2.2.2.2.1, .long), (G.2.2.2.2.2, .object RX1)]
def ce (G : aG) : aE → va_E
  | .inl (n, g) => .inl (G.2.2.2.1, n, .inl (fun j => Int32.ofInt (g j)))
  | .inr (.inl (n, g)) => .inl (G.2.2.2.2.1, n, .inr (.inl (fun j => Int64.ofInt (g j))))
  | .inr (.inr (.inl (n, r))) => .inl (G.2.2.2.2.2, n, .inr (.inr (.inr (.inr r))))
  | .inr (.inr (.inr (ci, fs))) => .inr (ci, fs.map cv)
def okE : aE → Prop
  | .inl (_, g) => ∀ j, okI (g j)
  | .inr (.inl (_, g)) => ∀ j, okJ (g j)
  | .inr (.inr (.inl _)) => True
  | .inr (.inr (.inr (_, fs))) => ∀ v ∈ fs, okV v
abbrev aH : Type := Nat → Option aE
def hset (h : aH) (a : Nat) (e : aE) : aH := fun b => if b = a then some e else h b
theorem hset_eq (h : aH) (a : Nat) (e : aE) : hset h a e a = some e := if_pos rfl
theorem hset_ne (h : aH) {a b : Nat} (e : aE) (hb : b ≠ a) : hset h a e b = h b := if_neg hb
def okH (h : aH) : Prop := ∀ a e, h a = some e → okE e
theorem okH.set {h : aH} (hh : okH h) {a : Nat} {e : aE} (he : okE e) : okH (hset h a e) := by
  intro b x hx
  by_cases hb : b = a
  · subst hb; rw [hset_eq] at hx; cases hx; exact he
  · rw [hset_ne h e hb] at hx; exact hh b x hx
def ceh (G : aG) (h : aH) : Nat → va_E := fun a => ce G ((h a).getD (eI 0 (fun _ => 0)))
theorem ceh_at (G : aG) {h : aH} {a : Nat} {e : aE} (he : h a = some e) : ceh G h a = ce G e := by simp [ceh, he]
theorem ceh_set (G : aG) (h : aH) (a : Nat) (e : aE) : va_up (ceh G h) a (ce G e) = ceh G (hset h a e) := by
  funext b
  by_cases hb : b = a
  · subst hb; simp [va_up, ceh, hset]
  · simp [va_up, ceh, hset, hb]
def aWd (G : aG) (A : Nat → Prop) (h : aH) (H : Heap) : Prop := ∃ Ls : List Nat, va_P (gD G) vwCl (va_pl Ls (ceh G h)) H ∧ va_D A (va_pl Ls (ceh G h)) ∧ ∀ a, a ∈ Ls ↔ (h a).isSome = true
theorem aWd.get {G : aG} {A : Nat → Prop} {h : aH} {H : Heap} (w : aWd G A h H) {a : Nat} {e : aE} (he : h a = some e) : ∃ (Ls : List Nat) (k : Nat), va_P (gD G) vwCl (va_pl Ls (ceh G h)) H ∧ va_D A (va_pl Ls (ceh G h)) ∧ (∀ b, b ∈ Ls ↔ (h b).isSome = true) ∧ a ∈ Ls ∧ (va_pl Ls (ceh G h))[k]? = some (a, ce G e) := by
  obtain ⟨Ls, hP, hD, hL⟩ := w
  have ha : a ∈ Ls := (hL a).mpr (by rw [he]; rfl)
  obtain ⟨k, hk⟩ := va_pl_get (X := []) (f := ceh G h) ha
  refine ⟨Ls, k, hP, hD, hL, ha, ?_⟩
  rw [List.nil_append, ceh_at G he] at hk
  exact hk
theorem aWd.upd {G : aG} {A : Nat → Prop} {h : aH} {H1 : Heap} {Ls : List Nat} {a k : Nat} {e0 e : aE} (he : h a = some e0) (hD0 : va_D A (va_pl Ls (ceh G h))) (hL : ∀ b, b ∈ Ls ↔ (h b).isSome = true) (ha : a ∈ Ls) (hk : (va_pl Ls (ceh G h))[k]? = some (a, ce G e0))
    (hP : va_P (gD G) vwCl ((va_pl Ls (ceh G h)).set k (a, ce G e)) H1) (hD : va_D A ((va_pl Ls (ceh G h)).set k (a, ce G e))) : aWd G A (hset h a e) H1 := by
  have h1 := va_pl_set (X := []) (f := ceh G h) (e := ce G e) (by simpa using hD0) ha (by rw [List.nil_append, ceh_at G he]; exact hk)
  rw [List.nil_append, List.nil_append, ceh_set] at h1
  rw [h1] at hP hD
  refine ⟨Ls, hP, hD, fun b => ?_⟩
  rw [hL b]
  by_cases hb : b = a
  · subst hb; rw [hset_eq, he]; exact ⟨fun _ => rfl, fun _ => rfl⟩
  · rw [hset_ne h e hb]
theorem aWd.lt {G : aG} {A : Nat → Prop} {h : aH} {H : Heap} (w : aWd G A h H) {a : Nat} (ha : (h a).isSome = true) : a < H.size := by
  obtain ⟨e, he⟩ := Option.isSome_iff_exists.mp ha
  obtain ⟨Ls, k, hP, -, -, -, hk⟩ := w.get he
  exact (hP k _ hk).lt
theorem aWd.in {G : aG} {A : Nat → Prop} {h : aH} {H : Heap} (w : aWd G A h H) {a : Nat} (ha : (h a).isSome = true) : A a := by
  obtain ⟨e, he⟩ := Option.isSome_iff_exists.mp ha
  obtain ⟨Ls, k, -, hD, -, -, hk⟩ := w.get he
  exact hD.2 k _ hk
theorem aWd.weaken {G : aG} {A B : Nat → Prop} {h : aH} {H : Heap} (w : aWd G A h H) (hAB : ∀ a, (h a).isSome = true → A a → B a) : aWd G B h H := by
  obtain ⟨Ls, hP, hD, hL⟩ := w
  refine ⟨Ls, hP, ⟨hD.1, fun k q hk => ?_⟩, hL⟩
  have hq : q.1 ∈ Ls := by
    have := List.mem_of_getElem? hk
    simp only [va_pl, List.mem_map] at this
    obtain ⟨b, hb, rfl⟩ := this
    exact hb
  exact hAB _ ((hL _).mp hq) (hD.2 k q hk)
theorem aWd.push {G : aG} {A : Nat → Prop} {h : aH} {H1 : Heap} {Ls : List Nat} {a : Nat} {e : aE} (hL : ∀ b, b ∈ Ls ↔ (h b).isSome = true) (ha : h a = none)
    (hP : va_P (gD G) vwCl (va_pl Ls (ceh G h) ++ [(a, ce G e)]) H1) (hD : va_D A (va_pl Ls (ceh G h) ++ [(a, ce G e)])) : aWd G A (hset h a e) H1 := by
  have hn : a ∉ Ls := fun q => by have := (hL a).mp q; rw [ha] at this; cases this
  rw [va_pl_push hn, ceh_set] at hP hD
  refine ⟨Ls ++ [a], hP, hD, fun b => ?_⟩
  by_cases hb : b = a
  · subst hb; rw [hset_eq]; simp
  · rw [hset_ne h e hb, ← hL b]; simp [hb]
-- methods, rooms, contexts
def aNW : List Cond := [.castable RX0 RX1, .castable RX2 RX1, .castable RX5 RX1, .castable RX7 RX1, .methodLinkNest RX9 32 yX6_init RX9, .methodLinkNest RX9 42 yX8_init RX9, .methodLinkNest RX9 49 yX3_init RX9, .fieldLinkNest RX9 168 RX6 "steps" "I" RX9]
def aKx (G : aG) (U : State) : Prop := va_K (gD G) vwCl (gT G) U ∧ va_AO RX1 U ∧ ∀ w ∈ aNW, va_Nw w U
theorem aKx.warm {G : aG} {s U : State} (hW : s.WarmedH U.vm) (h : aKx G s) : aKx G U := by
  refine ⟨va_K.moved hW.alike h.1, va_AO.moved hW.alike h.2.1, fun w hw => ?_⟩
  have h1 := h.2.2 w hw
  simp only [aNW, List.mem_cons, List.not_mem_nil, or_false] at hw
  rcases hw with rfl | rfl | rfl | rfl | rfl | rfl | rfl | rfl
  · exact va_Nw.warmC hW h1
  · exact va_Nw.warmC hW h1
  · exact va_Nw.warmC hW h1
  · exact va_Nw.warmC hW h1
  · exact va_Nw.warmM hW h1
  · exact va_Nw.warmM hW h1
  · exact va_Nw.warmM hW h1
  · exact va_Nw.warmF hW h1
theorem aNW_tables : ∀ w ∈ aNW, w.onTables = true := by decide +kernel
theorem aKx.blind {G : aG} {a : Array Value} {U : State} {g : JFrame} {mk : MethodId} (h : aKx G U) : aKx G (U.calling g mk a) :=
  ⟨va_K.moved (u := U) (U := U.calling g mk a) (Vm.Alike.refl U.vm) h.1, va_AO.moved (u := U) (U := U.calling g mk a) (Vm.Alike.refl U.vm) h.2.1, fun w hw => va_Nw.same (aNW_tables w hw) (u := U) (U := U.calling g mk a) rfl (h.2.2 w hw)⟩
abbrev aM : Type := MethodName × ByteArray × Nat × Option FieldType
abbrev aRm (d mc ms : Nat) : Room := { frames := d, cells := mc, slots := ms, locals := 38 * d }
def aCtx (G : aG) (X : aM) (p : Program) (s : State) (m : MethodId) (args : Array Value) (meth : Method) (c : Code) : Prop :=
  p.tables.exec = Jvm.exec ∧ c.code = X.2.1 ∧ c.maxLocals = X.2.2.1 ∧ meth.sig.returnType = X.2.2.2 ∧ s.vm.findClass X.1.cls = some m.cls ∧ (∀ w ∈ lw_ok, w.before args s = true) ∧ meth.locks = false ∧ (X.1.name = "<init>" → meth.name = "<init>") ∧ aKx G s
abbrev cvq (q : Nat × aV) : Nat × Value := (q.1, cv q.2)
def aA (h : aH) (sz : Nat) : Nat → Prop := fun q => (h q).isSome = true ∨ sz ≤ q
def aQ (G : aG) (A : Nat → Prop) (Q : Option aV → aH → Prop) : Array Value → State → Outcome → State → Prop := fun _ st o t =>
  (∃ (r : Option aV) (h' : aH), Q r h' ∧ o = .returned (r.map cv) ∧ aWd G A h' t.heap ∧ okH h' ∧ ∀ v, r = some v → okV v) ∧ va_F A st t
def EX (G : aG) (X : aM) (d mc ms : Nat) (Q : Option aV → aH → Prop) (pc : Nat) (L : List (Nat × aV)) (st : List aV) (h : aH) (kc ks : Nat) : Prop :=
  ∀ (p : Program) (e : Env) (s : State) (m : MethodId) (args : Array Value) (below : List Frame) (meth : Method) (c : Code) (A : Nat → Prop) (H : Heap) (ls : Array Slot) (locs : List Loc),
    aCtx G X p s m args meth c → (∀ q : Nat, s.heap.size ≤ q → A q) → aWd G A h H → va_S A s.heap H locs → okH h → (∀ v ∈ st, okV v) → (∀ q ∈ L, okV q.2) → lv_has ls X.2.2.1 (L.map cvq) →
    W p G.1 e (aRm d mc ms) s m args below meth c H locs kc ks (MQ below (aQ G A Q) args s mc ms A) (F0 m pc ls (st.map cv))
def MC (G : aG) (X : aM) (d mc ms : Nat) (args : List aV) (h : aH) (Q : Option aV → aH → Prop) : Prop :=
  (∀ v ∈ args, okV v) → okH h → ∀ sz : Nat, Met G.1 X.1 (.code X.1 X.2.1 X.2.2.1 X.2.2.2 :: lw_ok) (aRm d mc ms) (va_Pc (args.map cv) (fun U => U.heap.size = sz ∧ aWd G (fun _ => True) h U.heap ∧ aKx G U)) (aQ G (aA h sz) Q) mc ms (aA h sz)
def aArgs : Nat → List aV → List (Nat × aV)
  | _, [] => []
  | i, .inl x :: vs => (i, .inl x) :: aArgs (i + 1) vs
  | i, .inr (.inl x) :: vs => (i, .inr (.inl x)) :: aArgs (i + 2) vs
  | i, .inr (.inr r) :: vs => (i, .inr (.inr r)) :: aArgs (i + 1) vs
theorem cv_cat_r (r : Option Nat) : (va_rf r).category = 1 := by cases r <;> rfl
theorem aArgs_cv : ∀ (vs : List aV) (i : Nat), (aArgs i vs).map cvq = lv_args i (vs.map cv)
  | [], _ => rfl
  | .inl x :: vs, i => by
    simp only [aArgs, List.map_cons, lv_args, cvq, cv, aArgs_cv vs]
    rfl
  | .inr (.inl x) :: vs, i => by
    simp only [aArgs, List.map_cons, lv_args, cvq, cv, aArgs_cv vs]
    rfl
  | .inr (.inr r) :: vs, i => by
    simp only [aArgs, List.map_cons, lv_args, cvq, cv, aArgs_cv vs, cv_cat_r]
    rfl
theorem aArgs_mem : ∀ (vs : List aV) (i : Nat), ∀ q ∈ aArgs i vs, q.2 ∈ vs
  | [], _, q, h => by cases h
  | .inl x :: vs, i, q, h => by
    rcases List.mem_cons.mp h with rfl | h
    · exact List.mem_cons_self
    · exact List.mem_cons_of_mem _ (aArgs_mem vs _ q h)
  | .inr (.inl x) :: vs, i, q, h => by
    rcases List.mem_cons.mp h with rfl | h
    · exact List.mem_cons_self
    · exact List.mem_cons_of_mem _ (aArgs_mem vs _ q h)
  | .inr (.inr r) :: vs, i, q, h => by
    rcases List.mem_cons.mp h with rfl | h
    · exact List.mem_cons_self
    · exact List.mem_cons_of_mem _ (aArgs_mem vs _ q h)
theorem MC.of {G : aG} {X : aM} {d mc ms : Nat} {args : List aV} {h : aH} {Q : Option aV → aH → Prop} (hy : plainName X.1.cls = true) (hn : (lg_sl (args.map cv)).length ≤ X.2.2.1)
    (k : (∀ v ∈ args, okV v) → okH h → EX G X d mc ms Q 0 (aArgs 0 args) [] h 0 0) : MC G X d mc ms args h Q := by
  intro hok hokh sz
  refine Met.ofW (cc := X.2.1) (maxL := X.2.2.1) (ret := X.2.2.2) hy rfl ?_
  intro p e s m av below meth c s₁ B hml hv
  obtain ⟨rfl, hsz, hw, hK⟩ := hv
  subst hsz
  have hts : ∀ w ∈ lw_ok, w.before ((args.map cv).toArray) s = true := fun w hw => atoms_spec (ws := Cond.code X.1 X.2.1 X.2.2.1 X.2.2.2 :: lw_ok) B.pre w (List.mem_cons_of_mem _ hw)
  have hown : s.vm.findClass X.1.cls = some m.cls := findClass_of_methodNamed B.named
  have hl := lv_entry (args.map cv) (n := X.2.2.1) hn
  rw [lg_entry_eq]
  generalize (lg_sl (args.map cv) ++ List.replicate (X.2.2.1 - (lg_sl (args.map cv)).length) Slot.unset).toArray = ls at hl ⊢
  have hin : X.1.name = "<init>" → meth.name = "<init>" := fun q => by
    have := (name_of_methodNamed (x := X.1) B.named B.method).1
    rw [← q]; exact this
  refine k hok hokh p e s m _ below meth c (aA h s.heap.size) s.heap ls [] ⟨B.exec, B.bytes, hml, B.returns, hown, hts, B.notSynchronized, hin, hK⟩ (fun q hq => Or.inr hq) (hw.weaken fun a ha _ => Or.inl ha) va_S.rf hokh (fun v hv => by cases hv) (fun q hq => hok _ (aArgs_mem _ _ q hq)) ?_
  rw [aArgs_cv]
  exact hl
theorem aQ.mono {G : aG} {A : Nat → Prop} {Q Q' : Option aV → aH → Prop} (hq : ∀ r h, Q r h → Q' r h) {a : Array Value} {st : State} {o : Outcome} {t : State} (h : aQ G A Q a st o t) : aQ G A Q' a st o t := by
  obtain ⟨⟨r, h', q, z⟩, f⟩ := h
  exact ⟨⟨r, h', hq _ _ q, z⟩, f⟩
theorem EX.mono {G : aG} {X : aM} {d mc ms : Nat} {Q Q' : Option aV → aH → Prop} {pc : Nat} {L : List (Nat × aV)} {st : List aV} {h : aH} {kc ks : Nat} (k : EX G X d mc ms Q pc L st h kc ks) (hq : ∀ r h, Q r h → Q' r h) : EX G X d mc ms Q' pc L st h kc ks := by
  intro p e s m args below meth c A H ls locs C hA w hS ho h1 h2 hl T hT X₀
  obtain ⟨t, a, o, b1, b2, b3, b4⟩ := k p e s m args below meth c A H ls locs C hA w hS ho h1 h2 hl T hT X₀
  exact ⟨t, a, o, b1, b2, aQ.mono hq b3, b4⟩
/-- fewer locals -/
theorem EX.drop {G : aG} {X : aM} {d mc ms : Nat} {Q : Option aV → aH → Prop} {pc : Nat} {L L' : List (Nat × aV)} {st : List aV} {h : aH} {kc ks : Nat} (k : EX G X d mc ms Q pc L' st h kc ks) (hs : ∀ q ∈ L', q ∈ L) : EX G X d mc ms Q pc L st h kc ks := by
  intro p e s m args below meth c A H ls locs C hA w hS ho h1 h2 hl
  refine k p e s m args below meth c A H ls locs C hA w hS ho h1 (fun q hq => h2 q (hs q hq)) ⟨hl.1, hl.2.1, fun q hq => ?_⟩
  obtain ⟨q0, hq0, rfl⟩ := List.mem_map.mp hq
  exact hl.2.2 _ (List.mem_map.mpr ⟨q0, hs q0 hq0, rfl⟩)
