-- MAKING: the cells lie one behind another from B on; the world grows by one cell at a time
def adr (B : Nat) : Nat → Nat := fun k => B + k
theorem mw_len {N : Nat} {ad : Nat → Nat} {g : Nat → va_E} : (mw N ad g).length = N := by simp [mw]
theorem mw_push {N : Nat} {ad : Nat → Nat} {g : Nat → va_E} {q : Nat} {e : va_E} : mw N ad g ++ [(q, e)] = mw (N + 1) (va_up ad N q) (va_up g N e) := by
  apply List.ext_getElem?
  intro i
  by_cases h : i < N
  · rw [List.getElem?_append_left (by rw [mw_len]; exact h), mw_at h, mw_at (Nat.lt_succ_of_lt h), va_up_ne _ _ (Nat.ne_of_lt h), va_up_ne _ _ (Nat.ne_of_lt h)]
  · rw [List.getElem?_append_right (by rw [mw_len]; omega), mw_len]
    by_cases h2 : i = N
    · subst h2
      rw [mw_at (Nat.lt_succ_self i), va_up_self, va_up_self]
      simp
    · rw [List.getElem?_eq_none (by simp; omega), List.getElem?_eq_none (by rw [mw_len]; omega)]
theorem adr_up {B N : Nat} : va_up (adr B) N (adr B N) = adr B := by
  funext j
  by_cases h : j = N
  · subst h; rw [va_up_self]
  · rw [va_up_ne _ _ h]
theorem nD {B N : Nat} {g : Nat → va_E} : va_D (fun q => B ≤ q) (mw N (adr B) g) := by
  refine ⟨fun i j p q hp hq e => ?_, fun k q hq => ?_⟩
  · obtain ⟨h1, rfl⟩ := mw_of hp
    obtain ⟨h2, rfl⟩ := mw_of hq
    have e : B + i = B + j := e
    omega
  · obtain ⟨h1, rfl⟩ := mw_of hq
    exact Nat.le_add_right B k
theorem n_det {D : va_G} {B N q : Nat} {g : Nat → va_E} {e : va_E} {H : Heap} (hP : va_P D vwCl (mw N (adr B) g ++ [(q, e)]) H) (hD : va_D (fun q => B ≤ q) (mw N (adr B) g ++ [(q, e)])) (hz : H.size ≤ B + N + 1) : q = adr B N ∧ va_P D vwCl (mw (N + 1) (adr B) (va_up g N e)) H := by
  have hq : (mw N (adr B) g ++ [(q, e)])[N]? = some (q, e) := by
    rw [List.getElem?_append_right (by rw [mw_len]; exact Nat.le_refl N), mw_len]
    simp
  have h1 : q < H.size := (hP N _ hq).lt
  have h2 : B ≤ q := hD.2 N _ hq
  have h3 : q = adr B N := by
    rcases Nat.lt_or_ge q (B + N) with h | h
    · have hi : q - B < N := by omega
      have e1 : (mw N (adr B) g ++ [(q, e)])[q - B]? = some (adr B (q - B), g (q - B)) := by
        rw [List.getElem?_append_left (by rw [mw_len]; exact hi), mw_at hi]
      have := hD.1 (q - B) N _ _ e1 hq (by show B + (q - B) = q; omega)
      omega
    · show q = B + N
      omega
  refine ⟨h3, ?_⟩
  rw [mw_push, h3, adr_up] at hP
  exact hP
theorem n_put {D : va_G} {B N k : Nat} {g : Nat → va_E} {e : va_E} {H : Heap} (hk : k < N) (hP : va_P D vwCl ((mw N (adr B) g).set k (adr B k, e)) H) : va_P D vwCl (mw N (adr B) (va_up g k e)) H := by
  rw [mw_set (g' := va_up g k e) hk (va_up_self _ _ _) (fun j hj => va_up_ne _ _ hj)] at hP
  exact hP
theorem n_at {B N k : Nat} {g : Nat → va_E} {e : va_E} (hk : k < N) (h : g k = e) : (mw N (adr B) g)[k]? = some (adr B k, e) := by rw [mw_at hk, h]
theorem n_size {D : va_G} {B N : Nat} {g : Nat → va_E} {H : Heap} (hP : va_P D vwCl (mw (N + 1) (adr B) g) H) (hz : H.size ≤ B + (N + 1)) : H.size = B + (N + 1) := by
  have h : B + N < H.size := (hP N _ (mw_at (Nat.lt_succ_self N))).lt
  omega
def nX (U : State) : Prop := va_Nw (.methodLinkNest RX4 15 yX0_init RX4) U ∧ va_Nw (.methodLinkNest RX0 11 yX2_init RX4) U ∧ va_Nw (.methodLinkNest RX0 20 yX3_init RX4) U ∧ va_AO RX0 U ∧ va_AO RX1 U
theorem nX.warm {s U : State} (hW : s.WarmedH U.vm) (h : nX s) : nX U := ⟨va_Nw.warmM hW h.1, va_Nw.warmM hW h.2.1, va_Nw.warmM hW h.2.2.1, va_AO.moved hW.alike h.2.2.2.1, va_AO.moved hW.alike h.2.2.2.2⟩
theorem nX.call {U : State} {g : JFrame} {mk : MethodId} {a : Array Value} (h : nX U) : nX (U.calling g mk a) := ⟨va_Nw.same rfl rfl h.1, va_Nw.same rfl rfl h.2.1, va_Nw.same rfl rfl h.2.2.1, va_AO.moved (Vm.Alike.refl U.vm) h.2.2.2.1, va_AO.moved (Vm.Alike.refl U.vm) h.2.2.2.2⟩
def nP (D : va_G) (cs : Nat → ClassId) (B N : Nat) (g : Nat → va_E) (U : State) : Prop := U.heap.size = B + N ∧ va_P D vwCl (mw N (adr B) g) U.heap ∧ va_K D vwCl (tyl cs) U ∧ nX U
def nQ (D : va_G) (B N : Nat) (g : Nat → va_E) : Array Value → State → Outcome → State → Prop := fun _ st oc t => (oc = .returned none ∧ va_P D vwCl (mw N (adr B) g) t.heap) ∧ va_F (fun q => B ≤ q) st t
def NC (l : Launch) (y : MethodName) (ws : List Cond) (rm : Room) (D : va_G) (cs : Nat → ClassId) (B : Nat) (av : List Value) (N : Nat) (g : Nat → va_E) (N' : Nat) (g' : Nat → va_E) (mc ms : Nat) : Prop := Met l y ws rm (va_Pc av (nP D cs B N g)) (nQ D B N' g') mc ms (fun q => B ≤ q)
theorem n_enter {l : Launch} {y : MethodName} {ws ws' : List Cond} {rm : Room} {D : va_G} {cs : Nat → ClassId} {B N N' : Nat} {av : List Value} {g g' : Nat → va_E} {mc ms : Nat} {cc : ByteArray} {maxL : Nat} (hy : plainFor y = true) (hw : ws = Cond.code y cc maxL none :: ws') (hn : (lg_sl av).length ≤ maxL)
    (walk : ∀ (p : Program) (e : Env) (s : State) (m : MethodId) (below : List Frame) (meth : Method) (c : Code) (ls : Array Slot), p.tables.exec = Jvm.exec → c.code = cc → meth.sig.returnType = none → c.maxLocals = maxL → s.vm.findClass y.cls = some m.cls → (∀ w ∈ ws, w.before av.toArray s = true) → meth.locks = false → meth.name = y.name → s.heap.size = B + N → va_K D vwCl (tyl cs) s → nX s → va_P D vwCl (mw N (adr B) g) s.heap → va_S (fun q => B ≤ q) s.heap s.heap [] → lv_has ls maxL (lv_args 0 av) → W p l e rm s m av.toArray below meth c s.heap [] 0 0 (MQ below (nQ D B N' g') av.toArray s mc ms (fun q => B ≤ q)) (F0 m 0 ls [])) : NC l y ws rm D cs B av N g N' g' mc ms := by
  refine va_MetF (cc := cc) (maxL := maxL) (ret := none) hy hw ?_
  intro p e s m args below meth c s₁ Bd hml hv
  obtain ⟨rfl, hz, hP, hK, hX⟩ := hv
  have hl := lv_entry av (n := maxL) hn
  rw [lg_entry_eq]
  exact walk p e s m below meth c _ Bd.exec Bd.bytes Bd.returns hml (findClass_of_methodNamed Bd.named) (atoms_spec (ws := ws) Bd.pre) Bd.notSynchronized (name_of_methodNamed Bd.named Bd.method).1 hz hK hX hP va_S.rf hl
section NW
variable {p : Program} {l : Launch} {e : Env} {R : Room} {s : State} {m : MethodId} {args : Array Value} {below : List Frame} {meth : Method} {c : Code} {H : Heap} {locs : List Loc} {cells slots : Nat} {Q : State → Prop}
variable {cc : ByteArray} {pc : Nat} {ls : Array Slot} {rest st0 : List Value} {D : va_G} {cs : Nat → ClassId} {a : Array Value} {B N N' : Nat} {g g' : Nat → va_E} {H0 : Heap} {A0 : Nat → Prop}
theorem n_sized {f : JFrame} (kk : H.size ≤ s.heap.size + cells → W p l e R s m args below meth c H locs cells slots Q f) : W p l e R s m args below meth c H locs cells slots Q f :=
  fun T hT X => kk (by rw [← hT]; exact X.same.2.2.1) T hT X
theorem n_newi {n : Int32} {n' : Nat} (hx : p.tables.exec = Jvm.exec) (hb : c.code = cc) (harr : (Cond.arrayClass .int).before args s = true) (hK : va_K D vwCl (tyl cs) s) (hP : va_P D vwCl (mw N (adr B) g) H) (hS : va_S (fun q => B ≤ q) s.heap H locs) (hBs : B ≤ s.heap.size) (hB : s.heap.size + cells = B + N) (hn : ¬ n < 0) (hN : n.toNatClampNeg = n') (hbytes : n' * componentBytes .int ≤ 536870912) (hcells : cells + 1 ≤ R.cells) (hslots : slots + n' ≤ R.slots) (hdg : decode cc pc = .ok (.newarray .int, 2))
    (kk : ∀ H1 : Heap, va_P D vwCl (mw (N + 1) (adr B) (va_up g N (.inl (cs 0, n', .inl (fun _ => 0))))) H1 → va_S (fun q => B ≤ q) s.heap H1 locs → W p l e R s m args below meth c H1 locs (cells + 1) (slots + n') Q (F0 m (pc + 2) ls (.ref (adr B N) :: rest))) : W p l e R s m args below meth c H locs cells slots Q (F0 m pc ls (.int n :: rest)) := by
  refine va_newa hx hb (atype := .int) harr rfl hK hP nD hS (fun q h => Nat.le_trans hBs h) (a0 := (n', .inl (fun _ => 0))) (fun _ => rfl) hn hN hbytes hcells hslots hdg (fun q cA H1 hK2 hP1 hD1 hS1 => ?_)
  have h1 : s.vm.findClass ("[" ++ FieldType.int.toString) = some cA := (hK2.2 4 (cA, .int) rfl).2
  have h2 : s.vm.findClass ("[" ++ FieldType.int.toString) = some (cs 0) := (hK.2 0 (cs 0, .int) rfl).2
  have hc : cA = cs 0 := Option.some.inj (h1.symm.trans h2)
  subst hc
  refine n_sized (fun hz => ?_)
  obtain ⟨rfl, hP2⟩ := n_det hP1 hD1 (by omega)
  exact kk H1 hP2 hS1
theorem n_newz {n : Int32} {n' : Nat} (hx : p.tables.exec = Jvm.exec) (hb : c.code = cc) (harr : (Cond.arrayClass .boolean).before args s = true) (hK : va_K D vwCl (tyl cs) s) (hP : va_P D vwCl (mw N (adr B) g) H) (hS : va_S (fun q => B ≤ q) s.heap H locs) (hBs : B ≤ s.heap.size) (hB : s.heap.size + cells = B + N) (hn : ¬ n < 0) (hN : n.toNatClampNeg = n') (hbytes : n' * componentBytes .boolean ≤ 536870912) (hcells : cells + 1 ≤ R.cells) (hslots : slots + n' ≤ R.slots) (hdg : decode cc pc = .ok (.newarray .boolean, 2))
    (kk : ∀ H1 : Heap, va_P D vwCl (mw (N + 1) (adr B) (va_up g N (.inl (cs 1, n', .inl (fun _ => 0))))) H1 → va_S (fun q => B ≤ q) s.heap H1 locs → W p l e R s m args below meth c H1 locs (cells + 1) (slots + n') Q (F0 m (pc + 2) ls (.ref (adr B N) :: rest))) : W p l e R s m args below meth c H locs cells slots Q (F0 m pc ls (.int n :: rest)) := by
  refine va_newa hx hb (atype := .boolean) harr rfl hK hP nD hS (fun q h => Nat.le_trans hBs h) (a0 := (n', .inl (fun _ => 0))) (fun _ => rfl) hn hN hbytes hcells hslots hdg (fun q cA H1 hK2 hP1 hD1 hS1 => ?_)
  have h1 : s.vm.findClass ("[" ++ FieldType.boolean.toString) = some cA := (hK2.2 4 (cA, .boolean) rfl).2
  have h2 : s.vm.findClass ("[" ++ FieldType.boolean.toString) = some (cs 1) := (hK.2 1 (cs 1, .boolean) rfl).2
  have hc : cA = cs 1 := Option.some.inj (h1.symm.trans h2)
  subst hc
  refine n_sized (fun hz => ?_)
  obtain ⟨rfl, hP2⟩ := n_det hP1 hD1 (by omega)
  exact kk H1 hP2 hS1
theorem n_newr {own C : String} {index t0 n' : Nat} {n : Int32} (ht : (tyl cs)[t0]? = some (cs t0, .object C)) (hx : p.tables.exec = Jvm.exec) (hb : c.code = cc) (hown : s.vm.findClass own = some m.cls) (hclink : (Cond.classLink own index C).before args s = true) (hover : va_AO C s) (hK : va_K D vwCl (tyl cs) s) (hP : va_P D vwCl (mw N (adr B) g) H) (hS : va_S (fun q => B ≤ q) s.heap H locs) (hBs : B ≤ s.heap.size) (hB : s.heap.size + cells = B + N) (hn : ¬ n < 0) (hN : n.toNatClampNeg = n') (hbytes : n' * 4 ≤ 536870912) (hcells : cells + 1 ≤ R.cells) (hslots : slots + n' ≤ R.slots) (hdg : decode cc pc = .ok (.anewarray index, 3))
    (kk : ∀ H1 : Heap, va_P D vwCl (mw (N + 1) (adr B) (va_up g N (.inl (cs t0, n', .inr (.inr (.inr (.inr (fun _ => none)))))))) H1 → va_S (fun q => B ≤ q) s.heap H1 locs → W p l e R s m args below meth c H1 locs (cells + 1) (slots + n') Q (F0 m (pc + 3) ls (.ref (adr B N) :: rest))) : W p l e R s m args below meth c H locs cells slots Q (F0 m pc ls (.int n :: rest)) := by
  refine va_newq hx hb hown hclink hover hK hP nD hS (fun q h => Nat.le_trans hBs h) hn hN hbytes hcells hslots hdg (fun q cA H1 hK2 hP1 hD1 hS1 => ?_)
  obtain ⟨_, _, -, -, -, h1⟩ := (hK2.2 4 (cA, .object C) rfl).2
  obtain ⟨_, _, -, -, -, h2⟩ := (hK.2 t0 (cs t0, .object C) ht).2
  have hc : cA = cs t0 := Option.some.inj (h1.symm.trans h2)
  subst hc
  refine n_sized (fun hz => ?_)
  obtain ⟨rfl, hP2⟩ := n_det hP1 hD1 (by omega)
  exact kk H1 hP2 hS1
theorem n_newo {own C : String} {T : u_T} {F ci index : Nat} {fs : List Value} (hx : p.tables.exec = Jvm.exec) (hb : c.code = cc) (hts : ∀ w ∈ gtbl, w.before args s = true) (hin : ∀ w ∈ u_ws C T F, w ∈ gtbl) (ty : Nat → FieldType) (hty : ∀ k, k < F → parseFieldDescriptor (T k).2.2.1 = some (ty k)) (hown : s.vm.findClass own = some m.cls) (hcl : (Cond.classLink own index C).before args s = true) (hinst : (Cond.instantiable C F).before args s = true) (hini : (Cond.initialized C).before args s = true) (hK : va_K D vwCl (tyl cs) s) (hP : va_P D vwCl (mw N (adr B) g) H) (hS : va_S (fun q => B ≤ q) s.heap H locs) (hBs : B ≤ s.heap.size) (hB : s.heap.size + cells = B + N) (hc : vwCl[ci]? = some (C, T, F)) (hfs : ∀ j, j < F → defaultValue (ty j) = vp_V fs j) (hcells : cells + 1 ≤ R.cells) (hslots : slots + F ≤ R.slots) (hdg : decode cc pc = .ok (.new index, 3))
    (kk : ∀ H1 : Heap, va_P D vwCl (mw (N + 1) (adr B) (va_up g N (.inr (ci, fs)))) H1 → va_S (fun q => B ≤ q) s.heap H1 locs → W p l e R s m args below meth c H1 locs (cells + 1) (slots + F) Q (F0 m (pc + 3) ls (.ref (adr B N) :: rest))) : W p l e R s m args below meth c H locs cells slots Q (F0 m pc ls rest) := by
  refine va_new hx hb hts hin ty hty hown hcl hinst hini hK hP nD hS (fun q h => Nat.le_trans hBs h) hc hfs hcells hslots hdg (fun q H1 hP1 hD1 hS1 => ?_)
  refine n_sized (fun hz => ?_)
  obtain ⟨rfl, hP2⟩ := n_det hP1 hD1 (by omega)
  exact kk H1 hP2 hS1
theorem n_ret (hx : p.tables.exec = Jvm.exec) (hb : c.code = cc) (hr : meth.sig.returnType = none) (hlocks : meth.locks = false) (hdg : decode cc pc = .ok (.return_, 1)) (hP : va_P D vwCl (mw N (adr B) g) H) (hS : va_S (fun q => B ≤ q) s.heap H locs) : W p l e R s m args below meth c H locs cells slots (MQ below (nQ D B N g) args s cells slots (fun q => B ≤ q)) (F0 m pc ls []) :=
  W.vret hx hb hr (fun t ht _ => ⟨⟨rfl, by rw [ht]; exact hP⟩, hS.F ht⟩) hS.2.2 hdg hlocks
theorem n_call {mc ms : Nat} (hr : va_Run p l e R s m args below meth c H locs cells slots mc ms (F0 m pc ls st0) rest (nQ D B N' g' a) (fun q => B ≤ q)) (hS : va_S (fun q => B ≤ q) s.heap H locs)
    (kk : ∀ (H1 : Heap) (locs1 : List Loc), va_P D vwCl (mw N' (adr B) g') H1 → va_S (fun q => B ≤ q) s.heap H1 locs1 → W p l e R s m args below meth c H1 locs1 (cells + mc) (slots + ms) Q (F0 m (pc + 3) ls rest)) : W p l e R s m args below meth c H locs cells slots Q (F0 m pc ls st0) := by
  intro T hT X
  obtain ⟨w, st₀, t, T', L, h0, X', hL, e1, e2, ⟨⟨hv, hp⟩, hz, hk⟩, st⟩ := hr T hT X
  cases hv
  rw [h0] at hz hk
  obtain ⟨t2, a1, b1⟩ := kk T'.heap (locs ++ L) (by rw [e1]; exact hp)
    ⟨Nat.le_trans hS.1 (by rw [e1]; exact hz), fun q h1 h2 => by rw [e1, hk q (Nat.lt_of_lt_of_le h1 hS.1) h2]; exact hS.2.1 q h1 h2, fun q hq => by
      rcases List.mem_append.mp hq with h | h
      · exact hS.2.2 q h
      · exact hL q h⟩ T' rfl X'
  exact ⟨t2, st t2 a1, b1⟩
theorem n_pre {av : List Value} (hz : H.size = B + N) (hK : va_K D vwCl (tyl cs) s) (hX : nX s) (hP : va_P D vwCl (mw N (adr B) g) H) : PreS s H (va_Pc av (nP D cs B N g)) av :=
  ⟨fun a U g mk q => by obtain ⟨q0, qz, qP, qK, qX⟩ := q; exact ⟨q0, qz, qP, va_K.moved (u := U) (U := U.calling g mk a) (Vm.Alike.refl U.vm) qK, qX.call⟩, fun U hU hW => ⟨rfl, by rw [hU]; exact hz, by rw [hU]; exact hP, va_K.moved hW.alike hK, hX.warm hW⟩⟩
end NW
def w_S_1 (cs : Nat → ClassId) (B k : Nat) (g : Nat → va_E) : Nat → va_E := va_up g (k + 1) (.inl (cs 0, 4, .inl (fun _ => 0)))
theorem w_S_1_keep {cs : Nat → ClassId} {B k j : Nat} {g : Nat → va_E} (h : j < k) : w_S_1 cs B k g j = g j := (va_up_ne _ _ (by omega)).trans rfl
def w_S_2 (cs : Nat → ClassId) (B k : Nat) (g : Nat → va_E) : Nat → va_E := va_up (w_S_1 cs B k g) k (.inr (3, [.ref (adr B (k + 1)), .null, .int 0, .int 0, .int 0, .int 0]))
theorem w_S_2_keep {cs : Nat → ClassId} {B k j : Nat} {g : Nat → va_E} (h : j < k) : w_S_2 cs B k g j = g j := (va_up_ne _ _ (by omega)).trans (w_S_1_keep (cs := cs) (B := B) (g := g) h)
def w_S_3 (cs : Nat → ClassId) (B k : Nat) (g : Nat → va_E) : Nat → va_E := va_up (w_S_2 cs B k g) (k + 2) (.inl (cs 0, 3, .inl (fun _ => 0)))
theorem w_S_3_keep {cs : Nat → ClassId} {B k j : Nat} {g : Nat → va_E} (h : j < k) : w_S_3 cs B k g j = g j := (va_up_ne _ _ (by omega)).trans (w_S_2_keep (cs := cs) (B := B) (g := g) h)
def w_S_4 (cs : Nat → ClassId) (B k : Nat) (g : Nat → va_E) : Nat → va_E := va_up (w_S_3 cs B k g) k (.inr (3, [.ref (adr B (k + 1)), .ref (adr B (k + 2)), .int 0, .int 0, .int 0, .int 0]))
theorem w_S_4_keep {cs : Nat → ClassId} {B k j : Nat} {g : Nat → va_E} (h : j < k) : w_S_4 cs B k g j = g j := (va_up_ne _ _ (by omega)).trans (w_S_3_keep (cs := cs) (B := B) (g := g) h)
set_option maxHeartbeats 4000000 in
set_option maxRecDepth 100000 in
theorem n_S (l : Launch) (D : va_G) (cs : Nat → ClassId) (B k : Nat) (g : Nat → va_E) (f_own : g k = .inr (3, [.null, .null, .int 0, .int 0, .int 0, .int 0])) : NC l yX3_init wX3_init { frames := 1, cells := 2, slots := 7, locals := 24 } D cs B [.ref (adr B k)] ((k + 1)) g ((k + 3)) (w_S_4 cs B k g) 2 7 := by
  refine n_enter (cc := cX3_init) (maxL := 1) (by decide +kernel) rfl (Nat.le_of_ble_eq_true rfl) ?_
  intro p e s m below meth c ls hx hb hr hml hown hts hlocks hin hz0 hK hX hP hS hl
  have hown : s.vm.findClass RX3 = some m.cls := hown
  have hin : meth.name = "<init>" := hin
  have hts : ∀ w ∈ gtbl, w.before _ s = true := fun w h => hts w (List.mem_cons_of_mem _ h)
  have hl : lv_has ls 1 [(0, .ref (adr B k))] := hl
  have hBs : B ≤ s.heap.size := by omega
  have hB : s.heap.size + 0 = B + (k + 1) := hz0
  refine lv_aload_n hx hb dX3_init_0 rfl (lv_at hl 0 rfl) ?_
  refine W.objInit hx hb hown (hts _ k_43) (hts _ k_15) (hts _ k_16) rfl (by rw [hml]; exact hl.1) rfl dX3_init_1 (Nat.le_of_ble_eq_true rfl) (Nat.le_of_ble_eq_true rfl) ?_
  refine W.eq (g2 := F0 m 4 ls []) rfl ?_
  refine lv_aload_n hx hb dX3_init_4 rfl (lv_at hl 0 rfl) ?_
  refine lv_iconst (v := 4) hx hb dX3_init_5 (by decide) ?_
  refine n_newi (n' := 4) hx hb (hts _ k_38) hK hP hS hBs hB (by decide) (by decide) (by decide) (Nat.le_of_ble_eq_true rfl) (Nat.le_of_ble_eq_true rfl) dX3_init_6 (fun H hP hS => ?_)
  have hP : va_P D vwCl (mw (k + 2) (adr B) (w_S_1 cs B k g)) H := hP
  have f_own : (w_S_1 cs B k g) k = .inr (3, [.null, .null, .int 0, .int 0, .int 0, .int 0]) := (va_up_ne _ _ (by omega)).trans f_own
  have f_k1 : (w_S_1 cs B k g) (k + 1) = .inl (cs 0, 4, .inl (fun _ => 0)) := va_up_self _ _ _
  refine W.widen (k := 1) (n := 4) (Nat.le_of_ble_eq_true rfl) (Nat.le_of_ble_eq_true rfl) ?_
  have hB : s.heap.size + 1 = B + (k + 2) := by omega
  refine va_putF (D := D) (ci := 3) (v := .ref (adr B (k + 1))) (ty := .array .int) (C := RX3) (T := TX3) (N := 6) hx hb hts inX3 tyX3 tyX3_ok nmX3 hown hK hP nD hS k (n_at (by omega) f_own) rfl 0 (by decide) (hts _ k_44) (fun _ h9 => h9) rfl hin rfl (by decide +kernel) rfl rfl (Nat.le_of_ble_eq_true rfl) dX3_init_8 (fun H locs hP _ hS => ?_)
  have hP := n_put (by omega) hP
  have hP : va_P D vwCl (mw (k + 2) (adr B) (w_S_2 cs B k g)) H := hP
  have f_k1 : (w_S_2 cs B k g) (k + 1) = .inl (cs 0, 4, .inl (fun _ => 0)) := (va_up_ne _ _ (by omega)).trans f_k1
  have f_k : (w_S_2 cs B k g) k = .inr (3, [.ref (adr B (k + 1)), .null, .int 0, .int 0, .int 0, .int 0]) := va_up_self _ _ _
  refine lv_aload_n hx hb dX3_init_11 rfl (lv_at hl 0 rfl) ?_
  refine lv_iconst (v := 3) hx hb dX3_init_12 (by decide) ?_
  refine n_newi (n' := 3) hx hb (hts _ k_38) hK hP hS hBs hB (by decide) (by decide) (by decide) (Nat.le_of_ble_eq_true rfl) (Nat.le_of_ble_eq_true rfl) dX3_init_13 (fun H hP hS => ?_)
  have hP : va_P D vwCl (mw (k + 3) (adr B) (w_S_3 cs B k g)) H := hP
  have f_k : (w_S_3 cs B k g) k = .inr (3, [.ref (adr B (k + 1)), .null, .int 0, .int 0, .int 0, .int 0]) := (va_up_ne _ _ (by omega)).trans f_k
  have f_k1 : (w_S_3 cs B k g) (k + 1) = .inl (cs 0, 4, .inl (fun _ => 0)) := (va_up_ne _ _ (by omega)).trans f_k1
  have f_k2 : (w_S_3 cs B k g) (k + 2) = .inl (cs 0, 3, .inl (fun _ => 0)) := va_up_self _ _ _
  refine W.widen (k := 2) (n := 7) (Nat.le_of_ble_eq_true rfl) (Nat.le_of_ble_eq_true rfl) ?_
  have hB : s.heap.size + 2 = B + (k + 3) := by omega
  refine va_putF (D := D) (ci := 3) (v := .ref (adr B (k + 2))) (ty := .array .int) (C := RX3) (T := TX3) (N := 6) hx hb hts inX3 tyX3 tyX3_ok nmX3 hown hK hP nD hS k (n_at (by omega) f_k) rfl 1 (by decide) (hts _ k_46) (fun _ h9 => h9) rfl hin rfl (by decide +kernel) rfl rfl (Nat.le_of_ble_eq_true rfl) dX3_init_15 (fun H locs hP _ hS => ?_)
  have hP := n_put (by omega) hP
  have hP : va_P D vwCl (mw (k + 3) (adr B) (w_S_4 cs B k g)) H := hP
  have f_k1 : (w_S_4 cs B k g) (k + 1) = .inl (cs 0, 4, .inl (fun _ => 0)) := (va_up_ne _ _ (by omega)).trans f_k1
  have f_k2 : (w_S_4 cs B k g) (k + 2) = .inl (cs 0, 3, .inl (fun _ => 0)) := (va_up_ne _ _ (by omega)).trans f_k2
  have f_k : (w_S_4 cs B k g) k = .inr (3, [.ref (adr B (k + 1)), .ref (adr B (k + 2)), .int 0, .int 0, .int 0, .int 0]) := va_up_self _ _ _
  exact n_ret hx hb hr hlocks dX3_init_18 hP hS
theorem n_S_own (cs : Nat → ClassId) (B k : Nat) (g : Nat → va_E) : w_S_4 cs B k g k = .inr (3, [.ref (adr B (k + 1)), .ref (adr B (k + 2)), .int 0, .int 0, .int 0, .int 0]) := va_up_self _ _ _
def w_P_1 (cs : Nat → ClassId) (B k : Nat) (g : Nat → va_E) : Nat → va_E := va_up g (k + 1) (.inl (cs 0, 16, .inl (fun _ => 0)))
theorem w_P_1_keep {cs : Nat → ClassId} {B k j : Nat} {g : Nat → va_E} (h : j < k) : w_P_1 cs B k g j = g j := (va_up_ne _ _ (by omega)).trans rfl
def w_P_2 (cs : Nat → ClassId) (B k : Nat) (g : Nat → va_E) : Nat → va_E := va_up (w_P_1 cs B k g) k (.inr (2, [.ref (adr B (k + 1)), .null, .null, .int 0]))
theorem w_P_2_keep {cs : Nat → ClassId} {B k j : Nat} {g : Nat → va_E} (h : j < k) : w_P_2 cs B k g j = g j := (va_up_ne _ _ (by omega)).trans (w_P_1_keep (cs := cs) (B := B) (g := g) h)
def w_P_3 (cs : Nat → ClassId) (B k : Nat) (g : Nat → va_E) : Nat → va_E := va_up (w_P_2 cs B k g) (k + 2) (.inl (cs 0, 16, .inl (fun _ => 0)))
theorem w_P_3_keep {cs : Nat → ClassId} {B k j : Nat} {g : Nat → va_E} (h : j < k) : w_P_3 cs B k g j = g j := (va_up_ne _ _ (by omega)).trans (w_P_2_keep (cs := cs) (B := B) (g := g) h)
def w_P_4 (cs : Nat → ClassId) (B k : Nat) (g : Nat → va_E) : Nat → va_E := va_up (w_P_3 cs B k g) k (.inr (2, [.ref (adr B (k + 1)), .ref (adr B (k + 2)), .null, .int 0]))
theorem w_P_4_keep {cs : Nat → ClassId} {B k j : Nat} {g : Nat → va_E} (h : j < k) : w_P_4 cs B k g j = g j := (va_up_ne _ _ (by omega)).trans (w_P_3_keep (cs := cs) (B := B) (g := g) h)
def w_P_5 (cs : Nat → ClassId) (B k : Nat) (g : Nat → va_E) : Nat → va_E := va_up (w_P_4 cs B k g) (k + 3) (.inl (cs 0, 16, .inl (fun _ => 0)))
theorem w_P_5_keep {cs : Nat → ClassId} {B k j : Nat} {g : Nat → va_E} (h : j < k) : w_P_5 cs B k g j = g j := (va_up_ne _ _ (by omega)).trans (w_P_4_keep (cs := cs) (B := B) (g := g) h)
def w_P_6 (cs : Nat → ClassId) (B k : Nat) (g : Nat → va_E) : Nat → va_E := va_up (w_P_5 cs B k g) k (.inr (2, [.ref (adr B (k + 1)), .ref (adr B (k + 2)), .ref (adr B (k + 3)), .int 0]))
theorem w_P_6_keep {cs : Nat → ClassId} {B k j : Nat} {g : Nat → va_E} (h : j < k) : w_P_6 cs B k g j = g j := (va_up_ne _ _ (by omega)).trans (w_P_5_keep (cs := cs) (B := B) (g := g) h)
set_option maxHeartbeats 4000000 in
set_option maxRecDepth 100000 in
theorem n_P (l : Launch) (D : va_G) (cs : Nat → ClassId) (B k : Nat) (g : Nat → va_E) (f_own : g k = .inr (2, [.null, .null, .null, .int 0])) : NC l yX2_init wX2_init { frames := 1, cells := 3, slots := 48, locals := 24 } D cs B [.ref (adr B k)] ((k + 1)) g ((k + 4)) (w_P_6 cs B k g) 3 48 := by
  refine n_enter (cc := cX2_init) (maxL := 1) (by decide +kernel) rfl (Nat.le_of_ble_eq_true rfl) ?_
  intro p e s m below meth c ls hx hb hr hml hown hts hlocks hin hz0 hK hX hP hS hl
  have hown : s.vm.findClass RX2 = some m.cls := hown
  have hin : meth.name = "<init>" := hin
  have hts : ∀ w ∈ gtbl, w.before _ s = true := fun w h => hts w (List.mem_cons_of_mem _ h)
  have hl : lv_has ls 1 [(0, .ref (adr B k))] := hl
  have hBs : B ≤ s.heap.size := by omega
  have hB : s.heap.size + 0 = B + (k + 1) := hz0
  refine lv_aload_n hx hb dX2_init_0 rfl (lv_at hl 0 rfl) ?_
  refine W.objInit hx hb hown (hts _ k_26) (hts _ k_15) (hts _ k_16) rfl (by rw [hml]; exact hl.1) rfl dX2_init_1 (Nat.le_of_ble_eq_true rfl) (Nat.le_of_ble_eq_true rfl) ?_
  refine W.eq (g2 := F0 m 4 ls []) rfl ?_
  refine lv_aload_n hx hb dX2_init_4 rfl (lv_at hl 0 rfl) ?_
  refine lv_bipush (v := 16) hx hb dX2_init_5 (by decide) ?_
  refine n_newi (n' := 16) hx hb (hts _ k_38) hK hP hS hBs hB (by decide) (by decide) (by decide) (Nat.le_of_ble_eq_true rfl) (Nat.le_of_ble_eq_true rfl) dX2_init_7 (fun H hP hS => ?_)
  have hP : va_P D vwCl (mw (k + 2) (adr B) (w_P_1 cs B k g)) H := hP
  have f_own : (w_P_1 cs B k g) k = .inr (2, [.null, .null, .null, .int 0]) := (va_up_ne _ _ (by omega)).trans f_own
  have f_k1 : (w_P_1 cs B k g) (k + 1) = .inl (cs 0, 16, .inl (fun _ => 0)) := va_up_self _ _ _
  refine W.widen (k := 1) (n := 16) (Nat.le_of_ble_eq_true rfl) (Nat.le_of_ble_eq_true rfl) ?_
  have hB : s.heap.size + 1 = B + (k + 2) := by omega
  refine va_putF (D := D) (ci := 2) (v := .ref (adr B (k + 1))) (ty := .array .int) (C := RX2) (T := TX2) (N := 4) hx hb hts inX2 tyX2 tyX2_ok nmX2 hown hK hP nD hS k (n_at (by omega) f_own) rfl 0 (by decide) (hts _ k_27) (fun _ h9 => h9) rfl hin rfl (by decide +kernel) rfl rfl (Nat.le_of_ble_eq_true rfl) dX2_init_9 (fun H locs hP _ hS => ?_)
  have hP := n_put (by omega) hP
  have hP : va_P D vwCl (mw (k + 2) (adr B) (w_P_2 cs B k g)) H := hP
  have f_k1 : (w_P_2 cs B k g) (k + 1) = .inl (cs 0, 16, .inl (fun _ => 0)) := (va_up_ne _ _ (by omega)).trans f_k1
  have f_k : (w_P_2 cs B k g) k = .inr (2, [.ref (adr B (k + 1)), .null, .null, .int 0]) := va_up_self _ _ _
  refine lv_aload_n hx hb dX2_init_12 rfl (lv_at hl 0 rfl) ?_
  refine lv_bipush (v := 16) hx hb dX2_init_13 (by decide) ?_
  refine n_newi (n' := 16) hx hb (hts _ k_38) hK hP hS hBs hB (by decide) (by decide) (by decide) (Nat.le_of_ble_eq_true rfl) (Nat.le_of_ble_eq_true rfl) dX2_init_15 (fun H hP hS => ?_)
  have hP : va_P D vwCl (mw (k + 3) (adr B) (w_P_3 cs B k g)) H := hP
  have f_k : (w_P_3 cs B k g) k = .inr (2, [.ref (adr B (k + 1)), .null, .null, .int 0]) := (va_up_ne _ _ (by omega)).trans f_k
  have f_k1 : (w_P_3 cs B k g) (k + 1) = .inl (cs 0, 16, .inl (fun _ => 0)) := (va_up_ne _ _ (by omega)).trans f_k1
  have f_k2 : (w_P_3 cs B k g) (k + 2) = .inl (cs 0, 16, .inl (fun _ => 0)) := va_up_self _ _ _
  refine W.widen (k := 2) (n := 32) (Nat.le_of_ble_eq_true rfl) (Nat.le_of_ble_eq_true rfl) ?_
  have hB : s.heap.size + 2 = B + (k + 3) := by omega
  refine va_putF (D := D) (ci := 2) (v := .ref (adr B (k + 2))) (ty := .array .int) (C := RX2) (T := TX2) (N := 4) hx hb hts inX2 tyX2 tyX2_ok nmX2 hown hK hP nD hS k (n_at (by omega) f_k) rfl 1 (by decide) (hts _ k_29) (fun _ h9 => h9) rfl hin rfl (by decide +kernel) rfl rfl (Nat.le_of_ble_eq_true rfl) dX2_init_17 (fun H locs hP _ hS => ?_)
  have hP := n_put (by omega) hP
  have hP : va_P D vwCl (mw (k + 3) (adr B) (w_P_4 cs B k g)) H := hP
  have f_k1 : (w_P_4 cs B k g) (k + 1) = .inl (cs 0, 16, .inl (fun _ => 0)) := (va_up_ne _ _ (by omega)).trans f_k1
  have f_k2 : (w_P_4 cs B k g) (k + 2) = .inl (cs 0, 16, .inl (fun _ => 0)) := (va_up_ne _ _ (by omega)).trans f_k2
  have f_k : (w_P_4 cs B k g) k = .inr (2, [.ref (adr B (k + 1)), .ref (adr B (k + 2)), .null, .int 0]) := va_up_self _ _ _
  refine lv_aload_n hx hb dX2_init_20 rfl (lv_at hl 0 rfl) ?_
  refine lv_bipush (v := 16) hx hb dX2_init_21 (by decide) ?_
  refine n_newi (n' := 16) hx hb (hts _ k_38) hK hP hS hBs hB (by decide) (by decide) (by decide) (Nat.le_of_ble_eq_true rfl) (Nat.le_of_ble_eq_true rfl) dX2_init_23 (fun H hP hS => ?_)
  have hP : va_P D vwCl (mw (k + 4) (adr B) (w_P_5 cs B k g)) H := hP
  have f_k : (w_P_5 cs B k g) k = .inr (2, [.ref (adr B (k + 1)), .ref (adr B (k + 2)), .null, .int 0]) := (va_up_ne _ _ (by omega)).trans f_k
  have f_k1 : (w_P_5 cs B k g) (k + 1) = .inl (cs 0, 16, .inl (fun _ => 0)) := (va_up_ne _ _ (by omega)).trans f_k1
  have f_k2 : (w_P_5 cs B k g) (k + 2) = .inl (cs 0, 16, .inl (fun _ => 0)) := (va_up_ne _ _ (by omega)).trans f_k2
  have f_k3 : (w_P_5 cs B k g) (k + 3) = .inl (cs 0, 16, .inl (fun _ => 0)) := va_up_self _ _ _
  refine W.widen (k := 3) (n := 48) (Nat.le_of_ble_eq_true rfl) (Nat.le_of_ble_eq_true rfl) ?_
  have hB : s.heap.size + 3 = B + (k + 4) := by omega
  refine va_putF (D := D) (ci := 2) (v := .ref (adr B (k + 3))) (ty := .array .int) (C := RX2) (T := TX2) (N := 4) hx hb hts inX2 tyX2 tyX2_ok nmX2 hown hK hP nD hS k (n_at (by omega) f_k) rfl 2 (by decide) (hts _ k_31) (fun _ h9 => h9) rfl hin rfl (by decide +kernel) rfl rfl (Nat.le_of_ble_eq_true rfl) dX2_init_25 (fun H locs hP _ hS => ?_)
  have hP := n_put (by omega) hP
  have hP : va_P D vwCl (mw (k + 4) (adr B) (w_P_6 cs B k g)) H := hP
  have f_k1 : (w_P_6 cs B k g) (k + 1) = .inl (cs 0, 16, .inl (fun _ => 0)) := (va_up_ne _ _ (by omega)).trans f_k1
  have f_k2 : (w_P_6 cs B k g) (k + 2) = .inl (cs 0, 16, .inl (fun _ => 0)) := (va_up_ne _ _ (by omega)).trans f_k2
  have f_k3 : (w_P_6 cs B k g) (k + 3) = .inl (cs 0, 16, .inl (fun _ => 0)) := (va_up_ne _ _ (by omega)).trans f_k3
  have f_k : (w_P_6 cs B k g) k = .inr (2, [.ref (adr B (k + 1)), .ref (adr B (k + 2)), .ref (adr B (k + 3)), .int 0]) := va_up_self _ _ _
  exact n_ret hx hb hr hlocks dX2_init_28 hP hS
theorem n_P_own (cs : Nat → ClassId) (B k : Nat) (g : Nat → va_E) : w_P_6 cs B k g k = .inr (2, [.ref (adr B (k + 1)), .ref (adr B (k + 2)), .ref (adr B (k + 3)), .int 0]) := va_up_self _ _ _
def w_R8_1 (cs : Nat → ClassId) (B k : Nat) (g : Nat → va_E) : Nat → va_E := va_up g (k + 1) (.inl (cs 0, 8, .inl (fun _ => 0)))
theorem w_R8_1_keep {cs : Nat → ClassId} {B k j : Nat} {g : Nat → va_E} (h : j < k) : w_R8_1 cs B k g j = g j := (va_up_ne _ _ (by omega)).trans rfl
def w_R8_2 (cs : Nat → ClassId) (B k : Nat) (g : Nat → va_E) : Nat → va_E := va_up (w_R8_1 cs B k g) k (.inr (1, [.ref (adr B (k + 1)), .null, .int 0, .int 0]))
theorem w_R8_2_keep {cs : Nat → ClassId} {B k j : Nat} {g : Nat → va_E} (h : j < k) : w_R8_2 cs B k g j = g j := (va_up_ne _ _ (by omega)).trans (w_R8_1_keep (cs := cs) (B := B) (g := g) h)
def w_R8_3 (cs : Nat → ClassId) (B k : Nat) (g : Nat → va_E) : Nat → va_E := va_up (w_R8_2 cs B k g) (k + 2) (.inl (cs 0, 8, .inl (fun _ => 0)))
theorem w_R8_3_keep {cs : Nat → ClassId} {B k j : Nat} {g : Nat → va_E} (h : j < k) : w_R8_3 cs B k g j = g j := (va_up_ne _ _ (by omega)).trans (w_R8_2_keep (cs := cs) (B := B) (g := g) h)
def w_R8_4 (cs : Nat → ClassId) (B k : Nat) (g : Nat → va_E) : Nat → va_E := va_up (w_R8_3 cs B k g) k (.inr (1, [.ref (adr B (k + 1)), .ref (adr B (k + 2)), .int 0, .int 0]))
theorem w_R8_4_keep {cs : Nat → ClassId} {B k j : Nat} {g : Nat → va_E} (h : j < k) : w_R8_4 cs B k g j = g j := (va_up_ne _ _ (by omega)).trans (w_R8_3_keep (cs := cs) (B := B) (g := g) h)
set_option maxHeartbeats 4000000 in
set_option maxRecDepth 100000 in
theorem n_R8 (l : Launch) (D : va_G) (cs : Nat → ClassId) (B k : Nat) (g : Nat → va_E) (f_own : g k = .inr (1, [.null, .null, .int 0, .int 0])) : NC l yX1_init wX1_init { frames := 1, cells := 2, slots := 16, locals := 24 } D cs B [.ref (adr B k), .int 8] ((k + 1)) g ((k + 3)) (w_R8_4 cs B k g) 2 16 := by
  refine n_enter (cc := cX1_init) (maxL := 2) (by decide +kernel) rfl (Nat.le_of_ble_eq_true rfl) ?_
  intro p e s m below meth c ls hx hb hr hml hown hts hlocks hin hz0 hK hX hP hS hl
  have hown : s.vm.findClass RX1 = some m.cls := hown
  have hin : meth.name = "<init>" := hin
  have hts : ∀ w ∈ gtbl, w.before _ s = true := fun w h => hts w (List.mem_cons_of_mem _ h)
  have hl : lv_has ls 2 [(0, .ref (adr B k)), (1, .int 8)] := hl
  have hBs : B ≤ s.heap.size := by omega
  have hB : s.heap.size + 0 = B + (k + 1) := hz0
  refine lv_aload_n hx hb dX1_init_0 rfl (lv_at hl 0 rfl) ?_
  refine W.objInit hx hb hown (hts _ k_67) (hts _ k_15) (hts _ k_16) rfl (by rw [hml]; exact hl.1) rfl dX1_init_1 (Nat.le_of_ble_eq_true rfl) (Nat.le_of_ble_eq_true rfl) ?_
  refine W.eq (g2 := F0 m 4 ls []) rfl ?_
  refine lv_aload_n hx hb dX1_init_4 rfl (lv_at hl 0 rfl) ?_
  refine lv_iload_n hx hb dX1_init_5 rfl (lv_at hl 1 rfl) ?_
  refine n_newi (n' := 8) hx hb (hts _ k_38) hK hP hS hBs hB (by decide) (by decide) (by decide) (Nat.le_of_ble_eq_true rfl) (Nat.le_of_ble_eq_true rfl) dX1_init_6 (fun H hP hS => ?_)
  have hP : va_P D vwCl (mw (k + 2) (adr B) (w_R8_1 cs B k g)) H := hP
  have f_own : (w_R8_1 cs B k g) k = .inr (1, [.null, .null, .int 0, .int 0]) := (va_up_ne _ _ (by omega)).trans f_own
  have f_k1 : (w_R8_1 cs B k g) (k + 1) = .inl (cs 0, 8, .inl (fun _ => 0)) := va_up_self _ _ _
  refine W.widen (k := 1) (n := 8) (Nat.le_of_ble_eq_true rfl) (Nat.le_of_ble_eq_true rfl) ?_
  have hB : s.heap.size + 1 = B + (k + 2) := by omega
  refine va_putF (D := D) (ci := 1) (v := .ref (adr B (k + 1))) (ty := .array .int) (C := RX1) (T := TX1) (N := 4) hx hb hts inX1 tyX1 tyX1_ok nmX1 hown hK hP nD hS k (n_at (by omega) f_own) rfl 0 (by decide) (hts _ k_68) (fun _ h9 => h9) rfl hin rfl (by decide +kernel) rfl rfl (Nat.le_of_ble_eq_true rfl) dX1_init_8 (fun H locs hP _ hS => ?_)
  have hP := n_put (by omega) hP
  have hP : va_P D vwCl (mw (k + 2) (adr B) (w_R8_2 cs B k g)) H := hP
  have f_k1 : (w_R8_2 cs B k g) (k + 1) = .inl (cs 0, 8, .inl (fun _ => 0)) := (va_up_ne _ _ (by omega)).trans f_k1
  have f_k : (w_R8_2 cs B k g) k = .inr (1, [.ref (adr B (k + 1)), .null, .int 0, .int 0]) := va_up_self _ _ _
  refine lv_aload_n hx hb dX1_init_11 rfl (lv_at hl 0 rfl) ?_
  refine lv_iload_n hx hb dX1_init_12 rfl (lv_at hl 1 rfl) ?_
  refine n_newi (n' := 8) hx hb (hts _ k_38) hK hP hS hBs hB (by decide) (by decide) (by decide) (Nat.le_of_ble_eq_true rfl) (Nat.le_of_ble_eq_true rfl) dX1_init_13 (fun H hP hS => ?_)
  have hP : va_P D vwCl (mw (k + 3) (adr B) (w_R8_3 cs B k g)) H := hP
  have f_k : (w_R8_3 cs B k g) k = .inr (1, [.ref (adr B (k + 1)), .null, .int 0, .int 0]) := (va_up_ne _ _ (by omega)).trans f_k
  have f_k1 : (w_R8_3 cs B k g) (k + 1) = .inl (cs 0, 8, .inl (fun _ => 0)) := (va_up_ne _ _ (by omega)).trans f_k1
  have f_k2 : (w_R8_3 cs B k g) (k + 2) = .inl (cs 0, 8, .inl (fun _ => 0)) := va_up_self _ _ _
  refine W.widen (k := 2) (n := 16) (Nat.le_of_ble_eq_true rfl) (Nat.le_of_ble_eq_true rfl) ?_
  have hB : s.heap.size + 2 = B + (k + 3) := by omega
  refine va_putF (D := D) (ci := 1) (v := .ref (adr B (k + 2))) (ty := .array .int) (C := RX1) (T := TX1) (N := 4) hx hb hts inX1 tyX1 tyX1_ok nmX1 hown hK hP nD hS k (n_at (by omega) f_k) rfl 1 (by decide) (hts _ k_69) (fun _ h9 => h9) rfl hin rfl (by decide +kernel) rfl rfl (Nat.le_of_ble_eq_true rfl) dX1_init_15 (fun H locs hP _ hS => ?_)
  have hP := n_put (by omega) hP
  have hP : va_P D vwCl (mw (k + 3) (adr B) (w_R8_4 cs B k g)) H := hP
  have f_k1 : (w_R8_4 cs B k g) (k + 1) = .inl (cs 0, 8, .inl (fun _ => 0)) := (va_up_ne _ _ (by omega)).trans f_k1
  have f_k2 : (w_R8_4 cs B k g) (k + 2) = .inl (cs 0, 8, .inl (fun _ => 0)) := (va_up_ne _ _ (by omega)).trans f_k2
  have f_k : (w_R8_4 cs B k g) k = .inr (1, [.ref (adr B (k + 1)), .ref (adr B (k + 2)), .int 0, .int 0]) := va_up_self _ _ _
  exact n_ret hx hb hr hlocks dX1_init_18 hP hS
theorem n_R8_own (cs : Nat → ClassId) (B k : Nat) (g : Nat → va_E) : w_R8_4 cs B k g k = .inr (1, [.ref (adr B (k + 1)), .ref (adr B (k + 2)), .int 0, .int 0]) := va_up_self _ _ _
def w_R20_1 (cs : Nat → ClassId) (B k : Nat) (g : Nat → va_E) : Nat → va_E := va_up g (k + 1) (.inl (cs 0, 20, .inl (fun _ => 0)))
theorem w_R20_1_keep {cs : Nat → ClassId} {B k j : Nat} {g : Nat → va_E} (h : j < k) : w_R20_1 cs B k g j = g j := (va_up_ne _ _ (by omega)).trans rfl
def w_R20_2 (cs : Nat → ClassId) (B k : Nat) (g : Nat → va_E) : Nat → va_E := va_up (w_R20_1 cs B k g) k (.inr (1, [.ref (adr B (k + 1)), .null, .int 0, .int 0]))
theorem w_R20_2_keep {cs : Nat → ClassId} {B k j : Nat} {g : Nat → va_E} (h : j < k) : w_R20_2 cs B k g j = g j := (va_up_ne _ _ (by omega)).trans (w_R20_1_keep (cs := cs) (B := B) (g := g) h)
def w_R20_3 (cs : Nat → ClassId) (B k : Nat) (g : Nat → va_E) : Nat → va_E := va_up (w_R20_2 cs B k g) (k + 2) (.inl (cs 0, 20, .inl (fun _ => 0)))
theorem w_R20_3_keep {cs : Nat → ClassId} {B k j : Nat} {g : Nat → va_E} (h : j < k) : w_R20_3 cs B k g j = g j := (va_up_ne _ _ (by omega)).trans (w_R20_2_keep (cs := cs) (B := B) (g := g) h)
def w_R20_4 (cs : Nat → ClassId) (B k : Nat) (g : Nat → va_E) : Nat → va_E := va_up (w_R20_3 cs B k g) k (.inr (1, [.ref (adr B (k + 1)), .ref (adr B (k + 2)), .int 0, .int 0]))
theorem w_R20_4_keep {cs : Nat → ClassId} {B k j : Nat} {g : Nat → va_E} (h : j < k) : w_R20_4 cs B k g j = g j := (va_up_ne _ _ (by omega)).trans (w_R20_3_keep (cs := cs) (B := B) (g := g) h)
set_option maxHeartbeats 4000000 in
set_option maxRecDepth 100000 in
theorem n_R20 (l : Launch) (D : va_G) (cs : Nat → ClassId) (B k : Nat) (g : Nat → va_E) (f_own : g k = .inr (1, [.null, .null, .int 0, .int 0])) : NC l yX1_init wX1_init { frames := 1, cells := 2, slots := 40, locals := 24 } D cs B [.ref (adr B k), .int 20] ((k + 1)) g ((k + 3)) (w_R20_4 cs B k g) 2 40 := by
  refine n_enter (cc := cX1_init) (maxL := 2) (by decide +kernel) rfl (Nat.le_of_ble_eq_true rfl) ?_
  intro p e s m below meth c ls hx hb hr hml hown hts hlocks hin hz0 hK hX hP hS hl
  have hown : s.vm.findClass RX1 = some m.cls := hown
  have hin : meth.name = "<init>" := hin
  have hts : ∀ w ∈ gtbl, w.before _ s = true := fun w h => hts w (List.mem_cons_of_mem _ h)
  have hl : lv_has ls 2 [(0, .ref (adr B k)), (1, .int 20)] := hl
  have hBs : B ≤ s.heap.size := by omega
  have hB : s.heap.size + 0 = B + (k + 1) := hz0
  refine lv_aload_n hx hb dX1_init_0 rfl (lv_at hl 0 rfl) ?_
  refine W.objInit hx hb hown (hts _ k_67) (hts _ k_15) (hts _ k_16) rfl (by rw [hml]; exact hl.1) rfl dX1_init_1 (Nat.le_of_ble_eq_true rfl) (Nat.le_of_ble_eq_true rfl) ?_
  refine W.eq (g2 := F0 m 4 ls []) rfl ?_
  refine lv_aload_n hx hb dX1_init_4 rfl (lv_at hl 0 rfl) ?_
  refine lv_iload_n hx hb dX1_init_5 rfl (lv_at hl 1 rfl) ?_
  refine n_newi (n' := 20) hx hb (hts _ k_38) hK hP hS hBs hB (by decide) (by decide) (by decide) (Nat.le_of_ble_eq_true rfl) (Nat.le_of_ble_eq_true rfl) dX1_init_6 (fun H hP hS => ?_)
  have hP : va_P D vwCl (mw (k + 2) (adr B) (w_R20_1 cs B k g)) H := hP
  have f_own : (w_R20_1 cs B k g) k = .inr (1, [.null, .null, .int 0, .int 0]) := (va_up_ne _ _ (by omega)).trans f_own
  have f_k1 : (w_R20_1 cs B k g) (k + 1) = .inl (cs 0, 20, .inl (fun _ => 0)) := va_up_self _ _ _
  refine W.widen (k := 1) (n := 20) (Nat.le_of_ble_eq_true rfl) (Nat.le_of_ble_eq_true rfl) ?_
  have hB : s.heap.size + 1 = B + (k + 2) := by omega
  refine va_putF (D := D) (ci := 1) (v := .ref (adr B (k + 1))) (ty := .array .int) (C := RX1) (T := TX1) (N := 4) hx hb hts inX1 tyX1 tyX1_ok nmX1 hown hK hP nD hS k (n_at (by omega) f_own) rfl 0 (by decide) (hts _ k_68) (fun _ h9 => h9) rfl hin rfl (by decide +kernel) rfl rfl (Nat.le_of_ble_eq_true rfl) dX1_init_8 (fun H locs hP _ hS => ?_)
  have hP := n_put (by omega) hP
  have hP : va_P D vwCl (mw (k + 2) (adr B) (w_R20_2 cs B k g)) H := hP
  have f_k1 : (w_R20_2 cs B k g) (k + 1) = .inl (cs 0, 20, .inl (fun _ => 0)) := (va_up_ne _ _ (by omega)).trans f_k1
  have f_k : (w_R20_2 cs B k g) k = .inr (1, [.ref (adr B (k + 1)), .null, .int 0, .int 0]) := va_up_self _ _ _
  refine lv_aload_n hx hb dX1_init_11 rfl (lv_at hl 0 rfl) ?_
  refine lv_iload_n hx hb dX1_init_12 rfl (lv_at hl 1 rfl) ?_
  refine n_newi (n' := 20) hx hb (hts _ k_38) hK hP hS hBs hB (by decide) (by decide) (by decide) (Nat.le_of_ble_eq_true rfl) (Nat.le_of_ble_eq_true rfl) dX1_init_13 (fun H hP hS => ?_)
  have hP : va_P D vwCl (mw (k + 3) (adr B) (w_R20_3 cs B k g)) H := hP
  have f_k : (w_R20_3 cs B k g) k = .inr (1, [.ref (adr B (k + 1)), .null, .int 0, .int 0]) := (va_up_ne _ _ (by omega)).trans f_k
  have f_k1 : (w_R20_3 cs B k g) (k + 1) = .inl (cs 0, 20, .inl (fun _ => 0)) := (va_up_ne _ _ (by omega)).trans f_k1
  have f_k2 : (w_R20_3 cs B k g) (k + 2) = .inl (cs 0, 20, .inl (fun _ => 0)) := va_up_self _ _ _
  refine W.widen (k := 2) (n := 40) (Nat.le_of_ble_eq_true rfl) (Nat.le_of_ble_eq_true rfl) ?_
  have hB : s.heap.size + 2 = B + (k + 3) := by omega
  refine va_putF (D := D) (ci := 1) (v := .ref (adr B (k + 2))) (ty := .array .int) (C := RX1) (T := TX1) (N := 4) hx hb hts inX1 tyX1 tyX1_ok nmX1 hown hK hP nD hS k (n_at (by omega) f_k) rfl 1 (by decide) (hts _ k_69) (fun _ h9 => h9) rfl hin rfl (by decide +kernel) rfl rfl (Nat.le_of_ble_eq_true rfl) dX1_init_15 (fun H locs hP _ hS => ?_)
  have hP := n_put (by omega) hP
  have hP : va_P D vwCl (mw (k + 3) (adr B) (w_R20_4 cs B k g)) H := hP
  have f_k1 : (w_R20_4 cs B k g) (k + 1) = .inl (cs 0, 20, .inl (fun _ => 0)) := (va_up_ne _ _ (by omega)).trans f_k1
  have f_k2 : (w_R20_4 cs B k g) (k + 2) = .inl (cs 0, 20, .inl (fun _ => 0)) := (va_up_ne _ _ (by omega)).trans f_k2
  have f_k : (w_R20_4 cs B k g) k = .inr (1, [.ref (adr B (k + 1)), .ref (adr B (k + 2)), .int 0, .int 0]) := va_up_self _ _ _
  exact n_ret hx hb hr hlocks dX1_init_18 hP hS
theorem n_R20_own (cs : Nat → ClassId) (B k : Nat) (g : Nat → va_E) : w_R20_4 cs B k g k = .inr (1, [.ref (adr B (k + 1)), .ref (adr B (k + 2)), .int 0, .int 0]) := va_up_self _ _ _
def w_R60_1 (cs : Nat → ClassId) (B k : Nat) (g : Nat → va_E) : Nat → va_E := va_up g (k + 1) (.inl (cs 0, 60, .inl (fun _ => 0)))
theorem w_R60_1_keep {cs : Nat → ClassId} {B k j : Nat} {g : Nat → va_E} (h : j < k) : w_R60_1 cs B k g j = g j := (va_up_ne _ _ (by omega)).trans rfl
def w_R60_2 (cs : Nat → ClassId) (B k : Nat) (g : Nat → va_E) : Nat → va_E := va_up (w_R60_1 cs B k g) k (.inr (1, [.ref (adr B (k + 1)), .null, .int 0, .int 0]))
theorem w_R60_2_keep {cs : Nat → ClassId} {B k j : Nat} {g : Nat → va_E} (h : j < k) : w_R60_2 cs B k g j = g j := (va_up_ne _ _ (by omega)).trans (w_R60_1_keep (cs := cs) (B := B) (g := g) h)
def w_R60_3 (cs : Nat → ClassId) (B k : Nat) (g : Nat → va_E) : Nat → va_E := va_up (w_R60_2 cs B k g) (k + 2) (.inl (cs 0, 60, .inl (fun _ => 0)))
theorem w_R60_3_keep {cs : Nat → ClassId} {B k j : Nat} {g : Nat → va_E} (h : j < k) : w_R60_3 cs B k g j = g j := (va_up_ne _ _ (by omega)).trans (w_R60_2_keep (cs := cs) (B := B) (g := g) h)
def w_R60_4 (cs : Nat → ClassId) (B k : Nat) (g : Nat → va_E) : Nat → va_E := va_up (w_R60_3 cs B k g) k (.inr (1, [.ref (adr B (k + 1)), .ref (adr B (k + 2)), .int 0, .int 0]))
theorem w_R60_4_keep {cs : Nat → ClassId} {B k j : Nat} {g : Nat → va_E} (h : j < k) : w_R60_4 cs B k g j = g j := (va_up_ne _ _ (by omega)).trans (w_R60_3_keep (cs := cs) (B := B) (g := g) h)
set_option maxHeartbeats 4000000 in
set_option maxRecDepth 100000 in
theorem n_R60 (l : Launch) (D : va_G) (cs : Nat → ClassId) (B k : Nat) (g : Nat → va_E) (f_own : g k = .inr (1, [.null, .null, .int 0, .int 0])) : NC l yX1_init wX1_init { frames := 1, cells := 2, slots := 120, locals := 24 } D cs B [.ref (adr B k), .int 60] ((k + 1)) g ((k + 3)) (w_R60_4 cs B k g) 2 120 := by
  refine n_enter (cc := cX1_init) (maxL := 2) (by decide +kernel) rfl (Nat.le_of_ble_eq_true rfl) ?_
  intro p e s m below meth c ls hx hb hr hml hown hts hlocks hin hz0 hK hX hP hS hl
  have hown : s.vm.findClass RX1 = some m.cls := hown
  have hin : meth.name = "<init>" := hin
  have hts : ∀ w ∈ gtbl, w.before _ s = true := fun w h => hts w (List.mem_cons_of_mem _ h)
  have hl : lv_has ls 2 [(0, .ref (adr B k)), (1, .int 60)] := hl
  have hBs : B ≤ s.heap.size := by omega
  have hB : s.heap.size + 0 = B + (k + 1) := hz0
  refine lv_aload_n hx hb dX1_init_0 rfl (lv_at hl 0 rfl) ?_
  refine W.objInit hx hb hown (hts _ k_67) (hts _ k_15) (hts _ k_16) rfl (by rw [hml]; exact hl.1) rfl dX1_init_1 (Nat.le_of_ble_eq_true rfl) (Nat.le_of_ble_eq_true rfl) ?_
  refine W.eq (g2 := F0 m 4 ls []) rfl ?_
  refine lv_aload_n hx hb dX1_init_4 rfl (lv_at hl 0 rfl) ?_
  refine lv_iload_n hx hb dX1_init_5 rfl (lv_at hl 1 rfl) ?_
  refine n_newi (n' := 60) hx hb (hts _ k_38) hK hP hS hBs hB (by decide) (by decide) (by decide) (Nat.le_of_ble_eq_true rfl) (Nat.le_of_ble_eq_true rfl) dX1_init_6 (fun H hP hS => ?_)
  have hP : va_P D vwCl (mw (k + 2) (adr B) (w_R60_1 cs B k g)) H := hP
  have f_own : (w_R60_1 cs B k g) k = .inr (1, [.null, .null, .int 0, .int 0]) := (va_up_ne _ _ (by omega)).trans f_own
  have f_k1 : (w_R60_1 cs B k g) (k + 1) = .inl (cs 0, 60, .inl (fun _ => 0)) := va_up_self _ _ _
  refine W.widen (k := 1) (n := 60) (Nat.le_of_ble_eq_true rfl) (Nat.le_of_ble_eq_true rfl) ?_
  have hB : s.heap.size + 1 = B + (k + 2) := by omega
  refine va_putF (D := D) (ci := 1) (v := .ref (adr B (k + 1))) (ty := .array .int) (C := RX1) (T := TX1) (N := 4) hx hb hts inX1 tyX1 tyX1_ok nmX1 hown hK hP nD hS k (n_at (by omega) f_own) rfl 0 (by decide) (hts _ k_68) (fun _ h9 => h9) rfl hin rfl (by decide +kernel) rfl rfl (Nat.le_of_ble_eq_true rfl) dX1_init_8 (fun H locs hP _ hS => ?_)
  have hP := n_put (by omega) hP
  have hP : va_P D vwCl (mw (k + 2) (adr B) (w_R60_2 cs B k g)) H := hP
  have f_k1 : (w_R60_2 cs B k g) (k + 1) = .inl (cs 0, 60, .inl (fun _ => 0)) := (va_up_ne _ _ (by omega)).trans f_k1
  have f_k : (w_R60_2 cs B k g) k = .inr (1, [.ref (adr B (k + 1)), .null, .int 0, .int 0]) := va_up_self _ _ _
  refine lv_aload_n hx hb dX1_init_11 rfl (lv_at hl 0 rfl) ?_
  refine lv_iload_n hx hb dX1_init_12 rfl (lv_at hl 1 rfl) ?_
  refine n_newi (n' := 60) hx hb (hts _ k_38) hK hP hS hBs hB (by decide) (by decide) (by decide) (Nat.le_of_ble_eq_true rfl) (Nat.le_of_ble_eq_true rfl) dX1_init_13 (fun H hP hS => ?_)
  have hP : va_P D vwCl (mw (k + 3) (adr B) (w_R60_3 cs B k g)) H := hP
  have f_k : (w_R60_3 cs B k g) k = .inr (1, [.ref (adr B (k + 1)), .null, .int 0, .int 0]) := (va_up_ne _ _ (by omega)).trans f_k
  have f_k1 : (w_R60_3 cs B k g) (k + 1) = .inl (cs 0, 60, .inl (fun _ => 0)) := (va_up_ne _ _ (by omega)).trans f_k1
  have f_k2 : (w_R60_3 cs B k g) (k + 2) = .inl (cs 0, 60, .inl (fun _ => 0)) := va_up_self _ _ _
  refine W.widen (k := 2) (n := 120) (Nat.le_of_ble_eq_true rfl) (Nat.le_of_ble_eq_true rfl) ?_
  have hB : s.heap.size + 2 = B + (k + 3) := by omega
  refine va_putF (D := D) (ci := 1) (v := .ref (adr B (k + 2))) (ty := .array .int) (C := RX1) (T := TX1) (N := 4) hx hb hts inX1 tyX1 tyX1_ok nmX1 hown hK hP nD hS k (n_at (by omega) f_k) rfl 1 (by decide) (hts _ k_69) (fun _ h9 => h9) rfl hin rfl (by decide +kernel) rfl rfl (Nat.le_of_ble_eq_true rfl) dX1_init_15 (fun H locs hP _ hS => ?_)
  have hP := n_put (by omega) hP
  have hP : va_P D vwCl (mw (k + 3) (adr B) (w_R60_4 cs B k g)) H := hP
  have f_k1 : (w_R60_4 cs B k g) (k + 1) = .inl (cs 0, 60, .inl (fun _ => 0)) := (va_up_ne _ _ (by omega)).trans f_k1
  have f_k2 : (w_R60_4 cs B k g) (k + 2) = .inl (cs 0, 60, .inl (fun _ => 0)) := (va_up_ne _ _ (by omega)).trans f_k2
  have f_k : (w_R60_4 cs B k g) k = .inr (1, [.ref (adr B (k + 1)), .ref (adr B (k + 2)), .int 0, .int 0]) := va_up_self _ _ _
  exact n_ret hx hb hr hlocks dX1_init_18 hP hS
theorem n_R60_own (cs : Nat → ClassId) (B k : Nat) (g : Nat → va_E) : w_R60_4 cs B k g k = .inr (1, [.ref (adr B (k + 1)), .ref (adr B (k + 2)), .int 0, .int 0]) := va_up_self _ _ _
def w_M_1 (cs : Nat → ClassId) (B k : Nat) (g : Nat → va_E) : Nat → va_E := va_up g (k + 1) (.inr (2, [.null, .null, .null, .int 0]))
theorem w_M_1_keep {cs : Nat → ClassId} {B k j : Nat} {g : Nat → va_E} (h : j < k) : w_M_1 cs B k g j = g j := (va_up_ne _ _ (by omega)).trans rfl
def w_M_2 (cs : Nat → ClassId) (B k : Nat) (g : Nat → va_E) : Nat → va_E := w_P_6 cs B (k + 1) (w_M_1 cs B k g)
theorem w_M_2_keep {cs : Nat → ClassId} {B k j : Nat} {g : Nat → va_E} (h : j < k) : w_M_2 cs B k g j = g j := (w_P_6_keep (by omega)).trans (w_M_1_keep (cs := cs) (B := B) (g := g) h)
def w_M_3 (cs : Nat → ClassId) (B k : Nat) (g : Nat → va_E) : Nat → va_E := va_up (w_M_2 cs B k g) k (.inr (0, [.ref (adr B (k + 1)), .null, .null, .null, .int 0, .int 0, .int 0, .int 0]))
theorem w_M_3_keep {cs : Nat → ClassId} {B k j : Nat} {g : Nat → va_E} (h : j < k) : w_M_3 cs B k g j = g j := (va_up_ne _ _ (by omega)).trans (w_M_2_keep (cs := cs) (B := B) (g := g) h)
def w_M_4 (cs : Nat → ClassId) (B k : Nat) (g : Nat → va_E) : Nat → va_E := va_up (w_M_3 cs B k g) (k + 5) (.inr (3, [.null, .null, .int 0, .int 0, .int 0, .int 0]))
theorem w_M_4_keep {cs : Nat → ClassId} {B k j : Nat} {g : Nat → va_E} (h : j < k) : w_M_4 cs B k g j = g j := (va_up_ne _ _ (by omega)).trans (w_M_3_keep (cs := cs) (B := B) (g := g) h)
def w_M_5 (cs : Nat → ClassId) (B k : Nat) (g : Nat → va_E) : Nat → va_E := w_S_4 cs B (k + 5) (w_M_4 cs B k g)
theorem w_M_5_keep {cs : Nat → ClassId} {B k j : Nat} {g : Nat → va_E} (h : j < k) : w_M_5 cs B k g j = g j := (w_S_4_keep (by omega)).trans (w_M_4_keep (cs := cs) (B := B) (g := g) h)
def w_M_6 (cs : Nat → ClassId) (B k : Nat) (g : Nat → va_E) : Nat → va_E := va_up (w_M_5 cs B k g) k (.inr (0, [.ref (adr B (k + 1)), .ref (adr B (k + 5)), .null, .null, .int 0, .int 0, .int 0, .int 0]))
theorem w_M_6_keep {cs : Nat → ClassId} {B k j : Nat} {g : Nat → va_E} (h : j < k) : w_M_6 cs B k g j = g j := (va_up_ne _ _ (by omega)).trans (w_M_5_keep (cs := cs) (B := B) (g := g) h)
def w_M_7 (cs : Nat → ClassId) (B k : Nat) (g : Nat → va_E) : Nat → va_E := va_up (w_M_6 cs B k g) (k + 8) (.inr (3, [.null, .null, .int 0, .int 0, .int 0, .int 0]))
theorem w_M_7_keep {cs : Nat → ClassId} {B k j : Nat} {g : Nat → va_E} (h : j < k) : w_M_7 cs B k g j = g j := (va_up_ne _ _ (by omega)).trans (w_M_6_keep (cs := cs) (B := B) (g := g) h)
def w_M_8 (cs : Nat → ClassId) (B k : Nat) (g : Nat → va_E) : Nat → va_E := w_S_4 cs B (k + 8) (w_M_7 cs B k g)
theorem w_M_8_keep {cs : Nat → ClassId} {B k j : Nat} {g : Nat → va_E} (h : j < k) : w_M_8 cs B k g j = g j := (w_S_4_keep (by omega)).trans (w_M_7_keep (cs := cs) (B := B) (g := g) h)
def w_M_9 (cs : Nat → ClassId) (B k : Nat) (g : Nat → va_E) : Nat → va_E := va_up (w_M_8 cs B k g) k (.inr (0, [.ref (adr B (k + 1)), .ref (adr B (k + 5)), .ref (adr B (k + 8)), .null, .int 0, .int 0, .int 0, .int 0]))
theorem w_M_9_keep {cs : Nat → ClassId} {B k j : Nat} {g : Nat → va_E} (h : j < k) : w_M_9 cs B k g j = g j := (va_up_ne _ _ (by omega)).trans (w_M_8_keep (cs := cs) (B := B) (g := g) h)
def w_M_10 (cs : Nat → ClassId) (B k : Nat) (g : Nat → va_E) : Nat → va_E := va_up (w_M_9 cs B k g) (k + 11) (.inr (1, [.null, .null, .int 0, .int 0]))
theorem w_M_10_keep {cs : Nat → ClassId} {B k j : Nat} {g : Nat → va_E} (h : j < k) : w_M_10 cs B k g j = g j := (va_up_ne _ _ (by omega)).trans (w_M_9_keep (cs := cs) (B := B) (g := g) h)
def w_M_11 (cs : Nat → ClassId) (B k : Nat) (g : Nat → va_E) : Nat → va_E := w_R20_4 cs B (k + 11) (w_M_10 cs B k g)
theorem w_M_11_keep {cs : Nat → ClassId} {B k j : Nat} {g : Nat → va_E} (h : j < k) : w_M_11 cs B k g j = g j := (w_R20_4_keep (by omega)).trans (w_M_10_keep (cs := cs) (B := B) (g := g) h)
def w_M_12 (cs : Nat → ClassId) (B k : Nat) (g : Nat → va_E) : Nat → va_E := va_up (w_M_11 cs B k g) k (.inr (0, [.ref (adr B (k + 1)), .ref (adr B (k + 5)), .ref (adr B (k + 8)), .ref (adr B (k + 11)), .int 0, .int 0, .int 0, .int 0]))
theorem w_M_12_keep {cs : Nat → ClassId} {B k j : Nat} {g : Nat → va_E} (h : j < k) : w_M_12 cs B k g j = g j := (va_up_ne _ _ (by omega)).trans (w_M_11_keep (cs := cs) (B := B) (g := g) h)
def w_M_13 (cs : Nat → ClassId) (B k : Nat) (g : Nat → va_E) : Nat → va_E := va_up (w_M_12 cs B k g) k (.inr (0, [.ref (adr B (k + 1)), .ref (adr B (k + 5)), .ref (adr B (k + 8)), .ref (adr B (k + 11)), .int 1, .int 0, .int 0, .int 0]))
theorem w_M_13_keep {cs : Nat → ClassId} {B k j : Nat} {g : Nat → va_E} (h : j < k) : w_M_13 cs B k g j = g j := (va_up_ne _ _ (by omega)).trans (w_M_12_keep (cs := cs) (B := B) (g := g) h)
set_option maxHeartbeats 4000000 in
set_option maxRecDepth 100000 in
theorem n_M (l : Launch) (D : va_G) (cs : Nat → ClassId) (B k : Nat) (g : Nat → va_E) (f_own : g k = .inr (0, [.null, .null, .null, .null, .int 0, .int 0, .int 0, .int 0])) : NC l yX0_init wX0_init { frames := 2, cells := 13, slots := 122, locals := 45 } D cs B [.ref (adr B k)] ((k + 1)) g ((k + 14)) (w_M_13 cs B k g) 13 122 := by
  refine n_enter (cc := cX0_init) (maxL := 1) (by decide +kernel) rfl (Nat.le_of_ble_eq_true rfl) ?_
  intro p e s m below meth c ls hx hb hr hml hown hts hlocks hin hz0 hK hX hP hS hl
  have hown : s.vm.findClass RX0 = some m.cls := hown
  have hin : meth.name = "<init>" := hin
  have hts : ∀ w ∈ gtbl, w.before _ s = true := fun w h => hts w (List.mem_cons_of_mem _ h)
  have hl : lv_has ls 1 [(0, .ref (adr B k))] := hl
  have hBs : B ≤ s.heap.size := by omega
  have hB : s.heap.size + 0 = B + (k + 1) := hz0
  refine lv_aload_n hx hb dX0_init_0 rfl (lv_at hl 0 rfl) ?_
  refine W.objInit hx hb hown (hts _ k_21) (hts _ k_15) (hts _ k_16) rfl (by rw [hml]; exact hl.1) rfl dX0_init_1 (Nat.le_of_ble_eq_true rfl) (Nat.le_of_ble_eq_true rfl) ?_
  refine W.eq (g2 := F0 m 4 ls []) rfl ?_
  refine lv_aload_n hx hb dX0_init_4 rfl (lv_at hl 0 rfl) ?_
  refine n_newo (ci := 2) (fs := [.null, .null, .null, .int 0]) (C := RX2) (T := TX2) (F := 4) hx hb hts inX2 tyX2 tyX2_ok hown (hts _ k_22) (hts _ k_23) (hts _ k_3) hK hP hS hBs hB rfl (fun j hj => by rcases (show j = 0 ∨ j = 1 ∨ j = 2 ∨ j = 3 by omega) with rfl | rfl | rfl | rfl <;> rfl) (Nat.le_of_ble_eq_true rfl) (Nat.le_of_ble_eq_true rfl) dX0_init_5 (fun H hP hS => ?_)
  have hP : va_P D vwCl (mw (k + 2) (adr B) (w_M_1 cs B k g)) H := hP
  have f_own : (w_M_1 cs B k g) k = .inr (0, [.null, .null, .null, .null, .int 0, .int 0, .int 0, .int 0]) := (va_up_ne _ _ (by omega)).trans f_own
  have f_k1 : (w_M_1 cs B k g) (k + 1) = .inr (2, [.null, .null, .null, .int 0]) := va_up_self _ _ _
  refine W.widen (k := 1) (n := 4) (Nat.le_of_ble_eq_true rfl) (Nat.le_of_ble_eq_true rfl) ?_
  have hB : s.heap.size + 1 = B + (k + 2) := by omega
  refine lv_dup hx hb dX0_init_8 rfl ?_
  refine n_sized (fun hz => ?_)
  have hsz := n_size (N := (k + 1)) hP (by omega)
  refine n_call (va_runIN (As := []) (rest := [.ref (adr B (k + 1)), .ref (adr B k)]) ⟨hx, hb, hml, hown, hts⟩ (n_P l D cs B (k + 1) (w_M_1 cs B k g) f_k1) ⟨va_cnB 0 hts (gC k_25) rfl rfl rfl hX.2.1 (hts _ k_3) (by decide +kernel) ⟨Nat.le_of_ble_eq_true rfl, Nat.le_of_ble_eq_true rfl⟩, rfl, hts _ k_24⟩ (n_pre hsz hK hX hP) rfl rfl hl.1 rfl (lv_room (Nat.le_of_ble_eq_true rfl)) dX0_init_9 ⟨Nat.le_of_ble_eq_true rfl, Nat.le_of_ble_eq_true rfl⟩) hS (fun H locs hP hS => ?_)
  have hP : va_P D vwCl (mw (k + 5) (adr B) (w_M_2 cs B k g)) H := hP
  have f_own : (w_M_2 cs B k g) k = .inr (0, [.null, .null, .null, .null, .int 0, .int 0, .int 0, .int 0]) := (w_P_6_keep (by omega)).trans f_own
  have f_k1 : (w_M_2 cs B k g) (k + 1) = .inr (2, [.ref (adr B ((k + 1) + 1)), .ref (adr B ((k + 1) + 2)), .ref (adr B ((k + 1) + 3)), .int 0]) := n_P_own _ _ _ _
  refine W.widen (k := 4) (n := 52) (Nat.le_of_ble_eq_true rfl) (Nat.le_of_ble_eq_true rfl) ?_
  have hB : s.heap.size + 4 = B + (k + 5) := by omega
  refine va_putF (D := D) (ci := 0) (v := .ref (adr B (k + 1))) (ty := .object "ReplayGroup$Program") (C := RX0) (T := TX0) (N := 8) hx hb hts inX0 tyX0 tyX0_ok nmX0 hown hK hP nD hS k (n_at (by omega) f_own) rfl 0 (by decide) (hts _ k_78) (fun _ h9 => h9) rfl hin rfl (by decide +kernel) rfl rfl (Nat.le_of_ble_eq_true rfl) dX0_init_12 (fun H locs hP _ hS => ?_)
  have hP := n_put (by omega) hP
  have hP : va_P D vwCl (mw (k + 5) (adr B) (w_M_3 cs B k g)) H := hP
  have f_k1 : (w_M_3 cs B k g) (k + 1) = .inr (2, [.ref (adr B ((k + 1) + 1)), .ref (adr B ((k + 1) + 2)), .ref (adr B ((k + 1) + 3)), .int 0]) := (va_up_ne _ _ (by omega)).trans f_k1
  have f_k : (w_M_3 cs B k g) k = .inr (0, [.ref (adr B (k + 1)), .null, .null, .null, .int 0, .int 0, .int 0, .int 0]) := va_up_self _ _ _
  refine lv_aload_n hx hb dX0_init_15 rfl (lv_at hl 0 rfl) ?_
  refine n_newo (ci := 3) (fs := [.null, .null, .int 0, .int 0, .int 0, .int 0]) (C := RX3) (T := TX3) (F := 6) hx hb hts inX3 tyX3 tyX3_ok hown (hts _ k_39) (hts _ k_40) (hts _ k_4) hK hP hS hBs hB rfl (fun j hj => by rcases (show j = 0 ∨ j = 1 ∨ j = 2 ∨ j = 3 ∨ j = 4 ∨ j = 5 by omega) with rfl | rfl | rfl | rfl | rfl | rfl <;> rfl) (Nat.le_of_ble_eq_true rfl) (Nat.le_of_ble_eq_true rfl) dX0_init_16 (fun H hP hS => ?_)
  have hP : va_P D vwCl (mw (k + 6) (adr B) (w_M_4 cs B k g)) H := hP
  have f_k : (w_M_4 cs B k g) k = .inr (0, [.ref (adr B (k + 1)), .null, .null, .null, .int 0, .int 0, .int 0, .int 0]) := (va_up_ne _ _ (by omega)).trans f_k
  have f_k1 : (w_M_4 cs B k g) (k + 1) = .inr (2, [.ref (adr B ((k + 1) + 1)), .ref (adr B ((k + 1) + 2)), .ref (adr B ((k + 1) + 3)), .int 0]) := (va_up_ne _ _ (by omega)).trans f_k1
  have f_k5 : (w_M_4 cs B k g) (k + 5) = .inr (3, [.null, .null, .int 0, .int 0, .int 0, .int 0]) := va_up_self _ _ _
  refine W.widen (k := 5) (n := 58) (Nat.le_of_ble_eq_true rfl) (Nat.le_of_ble_eq_true rfl) ?_
  have hB : s.heap.size + 5 = B + (k + 6) := by omega
  refine lv_dup hx hb dX0_init_19 rfl ?_
  refine n_sized (fun hz => ?_)
  have hsz := n_size (N := (k + 5)) hP (by omega)
  refine n_call (va_runIN (As := []) (rest := [.ref (adr B (k + 5)), .ref (adr B k)]) ⟨hx, hb, hml, hown, hts⟩ (n_S l D cs B (k + 5) (w_M_4 cs B k g) f_k5) ⟨va_cnB 0 hts (gC k_42) rfl rfl rfl hX.2.2.1 (hts _ k_4) (by decide +kernel) ⟨Nat.le_of_ble_eq_true rfl, Nat.le_of_ble_eq_true rfl⟩, rfl, hts _ k_41⟩ (n_pre hsz hK hX hP) rfl rfl hl.1 rfl (lv_room (Nat.le_of_ble_eq_true rfl)) dX0_init_20 ⟨Nat.le_of_ble_eq_true rfl, Nat.le_of_ble_eq_true rfl⟩) hS (fun H locs hP hS => ?_)
  have hP : va_P D vwCl (mw (k + 8) (adr B) (w_M_5 cs B k g)) H := hP
  have f_k : (w_M_5 cs B k g) k = .inr (0, [.ref (adr B (k + 1)), .null, .null, .null, .int 0, .int 0, .int 0, .int 0]) := (w_S_4_keep (by omega)).trans f_k
  have f_k1 : (w_M_5 cs B k g) (k + 1) = .inr (2, [.ref (adr B ((k + 1) + 1)), .ref (adr B ((k + 1) + 2)), .ref (adr B ((k + 1) + 3)), .int 0]) := (w_S_4_keep (by omega)).trans f_k1
  have f_k5 : (w_M_5 cs B k g) (k + 5) = .inr (3, [.ref (adr B ((k + 5) + 1)), .ref (adr B ((k + 5) + 2)), .int 0, .int 0, .int 0, .int 0]) := n_S_own _ _ _ _
  refine W.widen (k := 7) (n := 65) (Nat.le_of_ble_eq_true rfl) (Nat.le_of_ble_eq_true rfl) ?_
  have hB : s.heap.size + 7 = B + (k + 8) := by omega
  refine va_putF (D := D) (ci := 0) (v := .ref (adr B (k + 5))) (ty := .object "ReplayGroup$State") (C := RX0) (T := TX0) (N := 8) hx hb hts inX0 tyX0 tyX0_ok nmX0 hown hK hP nD hS k (n_at (by omega) f_k) rfl 1 (by decide) (hts _ k_80) (fun _ h9 => h9) rfl hin rfl (by decide +kernel) rfl rfl (Nat.le_of_ble_eq_true rfl) dX0_init_23 (fun H locs hP _ hS => ?_)
  have hP := n_put (by omega) hP
  have hP : va_P D vwCl (mw (k + 8) (adr B) (w_M_6 cs B k g)) H := hP
  have f_k1 : (w_M_6 cs B k g) (k + 1) = .inr (2, [.ref (adr B ((k + 1) + 1)), .ref (adr B ((k + 1) + 2)), .ref (adr B ((k + 1) + 3)), .int 0]) := (va_up_ne _ _ (by omega)).trans f_k1
  have f_k5 : (w_M_6 cs B k g) (k + 5) = .inr (3, [.ref (adr B ((k + 5) + 1)), .ref (adr B ((k + 5) + 2)), .int 0, .int 0, .int 0, .int 0]) := (va_up_ne _ _ (by omega)).trans f_k5
  have f_k : (w_M_6 cs B k g) k = .inr (0, [.ref (adr B (k + 1)), .ref (adr B (k + 5)), .null, .null, .int 0, .int 0, .int 0, .int 0]) := va_up_self _ _ _
  refine lv_aload_n hx hb dX0_init_26 rfl (lv_at hl 0 rfl) ?_
  refine n_newo (ci := 3) (fs := [.null, .null, .int 0, .int 0, .int 0, .int 0]) (C := RX3) (T := TX3) (F := 6) hx hb hts inX3 tyX3 tyX3_ok hown (hts _ k_39) (hts _ k_40) (hts _ k_4) hK hP hS hBs hB rfl (fun j hj => by rcases (show j = 0 ∨ j = 1 ∨ j = 2 ∨ j = 3 ∨ j = 4 ∨ j = 5 by omega) with rfl | rfl | rfl | rfl | rfl | rfl <;> rfl) (Nat.le_of_ble_eq_true rfl) (Nat.le_of_ble_eq_true rfl) dX0_init_27 (fun H hP hS => ?_)
  have hP : va_P D vwCl (mw (k + 9) (adr B) (w_M_7 cs B k g)) H := hP
  have f_k : (w_M_7 cs B k g) k = .inr (0, [.ref (adr B (k + 1)), .ref (adr B (k + 5)), .null, .null, .int 0, .int 0, .int 0, .int 0]) := (va_up_ne _ _ (by omega)).trans f_k
  have f_k1 : (w_M_7 cs B k g) (k + 1) = .inr (2, [.ref (adr B ((k + 1) + 1)), .ref (adr B ((k + 1) + 2)), .ref (adr B ((k + 1) + 3)), .int 0]) := (va_up_ne _ _ (by omega)).trans f_k1
  have f_k5 : (w_M_7 cs B k g) (k + 5) = .inr (3, [.ref (adr B ((k + 5) + 1)), .ref (adr B ((k + 5) + 2)), .int 0, .int 0, .int 0, .int 0]) := (va_up_ne _ _ (by omega)).trans f_k5
  have f_k8 : (w_M_7 cs B k g) (k + 8) = .inr (3, [.null, .null, .int 0, .int 0, .int 0, .int 0]) := va_up_self _ _ _
  refine W.widen (k := 8) (n := 71) (Nat.le_of_ble_eq_true rfl) (Nat.le_of_ble_eq_true rfl) ?_
  have hB : s.heap.size + 8 = B + (k + 9) := by omega
  refine lv_dup hx hb dX0_init_30 rfl ?_
  refine n_sized (fun hz => ?_)
  have hsz := n_size (N := (k + 8)) hP (by omega)
  refine n_call (va_runIN (As := []) (rest := [.ref (adr B (k + 8)), .ref (adr B k)]) ⟨hx, hb, hml, hown, hts⟩ (n_S l D cs B (k + 8) (w_M_7 cs B k g) f_k8) ⟨va_cnB 0 hts (gC k_42) rfl rfl rfl hX.2.2.1 (hts _ k_4) (by decide +kernel) ⟨Nat.le_of_ble_eq_true rfl, Nat.le_of_ble_eq_true rfl⟩, rfl, hts _ k_41⟩ (n_pre hsz hK hX hP) rfl rfl hl.1 rfl (lv_room (Nat.le_of_ble_eq_true rfl)) dX0_init_31 ⟨Nat.le_of_ble_eq_true rfl, Nat.le_of_ble_eq_true rfl⟩) hS (fun H locs hP hS => ?_)
  have hP : va_P D vwCl (mw (k + 11) (adr B) (w_M_8 cs B k g)) H := hP
  have f_k : (w_M_8 cs B k g) k = .inr (0, [.ref (adr B (k + 1)), .ref (adr B (k + 5)), .null, .null, .int 0, .int 0, .int 0, .int 0]) := (w_S_4_keep (by omega)).trans f_k
  have f_k1 : (w_M_8 cs B k g) (k + 1) = .inr (2, [.ref (adr B ((k + 1) + 1)), .ref (adr B ((k + 1) + 2)), .ref (adr B ((k + 1) + 3)), .int 0]) := (w_S_4_keep (by omega)).trans f_k1
  have f_k5 : (w_M_8 cs B k g) (k + 5) = .inr (3, [.ref (adr B ((k + 5) + 1)), .ref (adr B ((k + 5) + 2)), .int 0, .int 0, .int 0, .int 0]) := (w_S_4_keep (by omega)).trans f_k5
  have f_k8 : (w_M_8 cs B k g) (k + 8) = .inr (3, [.ref (adr B ((k + 8) + 1)), .ref (adr B ((k + 8) + 2)), .int 0, .int 0, .int 0, .int 0]) := n_S_own _ _ _ _
  refine W.widen (k := 10) (n := 78) (Nat.le_of_ble_eq_true rfl) (Nat.le_of_ble_eq_true rfl) ?_
  have hB : s.heap.size + 10 = B + (k + 11) := by omega
  refine va_putF (D := D) (ci := 0) (v := .ref (adr B (k + 8))) (ty := .object "ReplayGroup$State") (C := RX0) (T := TX0) (N := 8) hx hb hts inX0 tyX0 tyX0_ok nmX0 hown hK hP nD hS k (n_at (by omega) f_k) rfl 2 (by decide) (hts _ k_82) (fun _ h9 => h9) rfl hin rfl (by decide +kernel) rfl rfl (Nat.le_of_ble_eq_true rfl) dX0_init_34 (fun H locs hP _ hS => ?_)
  have hP := n_put (by omega) hP
  have hP : va_P D vwCl (mw (k + 11) (adr B) (w_M_9 cs B k g)) H := hP
  have f_k1 : (w_M_9 cs B k g) (k + 1) = .inr (2, [.ref (adr B ((k + 1) + 1)), .ref (adr B ((k + 1) + 2)), .ref (adr B ((k + 1) + 3)), .int 0]) := (va_up_ne _ _ (by omega)).trans f_k1
  have f_k5 : (w_M_9 cs B k g) (k + 5) = .inr (3, [.ref (adr B ((k + 5) + 1)), .ref (adr B ((k + 5) + 2)), .int 0, .int 0, .int 0, .int 0]) := (va_up_ne _ _ (by omega)).trans f_k5
  have f_k8 : (w_M_9 cs B k g) (k + 8) = .inr (3, [.ref (adr B ((k + 8) + 1)), .ref (adr B ((k + 8) + 2)), .int 0, .int 0, .int 0, .int 0]) := (va_up_ne _ _ (by omega)).trans f_k8
  have f_k : (w_M_9 cs B k g) k = .inr (0, [.ref (adr B (k + 1)), .ref (adr B (k + 5)), .ref (adr B (k + 8)), .null, .int 0, .int 0, .int 0, .int 0]) := va_up_self _ _ _
  refine lv_aload_n hx hb dX0_init_37 rfl (lv_at hl 0 rfl) ?_
  refine n_newo (ci := 1) (fs := [.null, .null, .int 0, .int 0]) (C := RX1) (T := TX1) (F := 4) hx hb hts inX1 tyX1 tyX1_ok hown (hts _ k_62) (hts _ k_63) (hts _ k_5) hK hP hS hBs hB rfl (fun j hj => by rcases (show j = 0 ∨ j = 1 ∨ j = 2 ∨ j = 3 by omega) with rfl | rfl | rfl | rfl <;> rfl) (Nat.le_of_ble_eq_true rfl) (Nat.le_of_ble_eq_true rfl) dX0_init_38 (fun H hP hS => ?_)
  have hP : va_P D vwCl (mw (k + 12) (adr B) (w_M_10 cs B k g)) H := hP
  have f_k : (w_M_10 cs B k g) k = .inr (0, [.ref (adr B (k + 1)), .ref (adr B (k + 5)), .ref (adr B (k + 8)), .null, .int 0, .int 0, .int 0, .int 0]) := (va_up_ne _ _ (by omega)).trans f_k
  have f_k1 : (w_M_10 cs B k g) (k + 1) = .inr (2, [.ref (adr B ((k + 1) + 1)), .ref (adr B ((k + 1) + 2)), .ref (adr B ((k + 1) + 3)), .int 0]) := (va_up_ne _ _ (by omega)).trans f_k1
  have f_k5 : (w_M_10 cs B k g) (k + 5) = .inr (3, [.ref (adr B ((k + 5) + 1)), .ref (adr B ((k + 5) + 2)), .int 0, .int 0, .int 0, .int 0]) := (va_up_ne _ _ (by omega)).trans f_k5
  have f_k8 : (w_M_10 cs B k g) (k + 8) = .inr (3, [.ref (adr B ((k + 8) + 1)), .ref (adr B ((k + 8) + 2)), .int 0, .int 0, .int 0, .int 0]) := (va_up_ne _ _ (by omega)).trans f_k8
  have f_k11 : (w_M_10 cs B k g) (k + 11) = .inr (1, [.null, .null, .int 0, .int 0]) := va_up_self _ _ _
  refine W.widen (k := 11) (n := 82) (Nat.le_of_ble_eq_true rfl) (Nat.le_of_ble_eq_true rfl) ?_
  have hB : s.heap.size + 11 = B + (k + 12) := by omega
  refine lv_dup hx hb dX0_init_41 rfl ?_
  refine lv_bipush (v := 20) hx hb dX0_init_42 (by decide) ?_
  refine n_sized (fun hz => ?_)
  have hsz := n_size (N := (k + 11)) hP (by omega)
  refine n_call (va_runI (As := [.int 20]) (rest := [.ref (adr B (k + 11)), .ref (adr B k)]) ⟨hx, hb, hml, hown, hts⟩ (n_R20 l D cs B (k + 11) (w_M_10 cs B k g) f_k11) (cwI 1 hts (gC k_66) rfl rfl rfl (hts _ k_5) (hts _ k_64) (hts _ k_65) rfl (by decide +kernel) ⟨Nat.le_of_ble_eq_true rfl, Nat.le_of_ble_eq_true rfl⟩) (n_pre hsz hK hX hP) rfl rfl hl.1 rfl (lv_room (Nat.le_of_ble_eq_true rfl)) dX0_init_44 ⟨Nat.le_of_ble_eq_true rfl, Nat.le_of_ble_eq_true rfl⟩) hS (fun H locs hP hS => ?_)
  have hP : va_P D vwCl (mw (k + 14) (adr B) (w_M_11 cs B k g)) H := hP
  have f_k : (w_M_11 cs B k g) k = .inr (0, [.ref (adr B (k + 1)), .ref (adr B (k + 5)), .ref (adr B (k + 8)), .null, .int 0, .int 0, .int 0, .int 0]) := (w_R20_4_keep (by omega)).trans f_k
  have f_k1 : (w_M_11 cs B k g) (k + 1) = .inr (2, [.ref (adr B ((k + 1) + 1)), .ref (adr B ((k + 1) + 2)), .ref (adr B ((k + 1) + 3)), .int 0]) := (w_R20_4_keep (by omega)).trans f_k1
  have f_k5 : (w_M_11 cs B k g) (k + 5) = .inr (3, [.ref (adr B ((k + 5) + 1)), .ref (adr B ((k + 5) + 2)), .int 0, .int 0, .int 0, .int 0]) := (w_R20_4_keep (by omega)).trans f_k5
  have f_k8 : (w_M_11 cs B k g) (k + 8) = .inr (3, [.ref (adr B ((k + 8) + 1)), .ref (adr B ((k + 8) + 2)), .int 0, .int 0, .int 0, .int 0]) := (w_R20_4_keep (by omega)).trans f_k8
  have f_k11 : (w_M_11 cs B k g) (k + 11) = .inr (1, [.ref (adr B ((k + 11) + 1)), .ref (adr B ((k + 11) + 2)), .int 0, .int 0]) := n_R20_own _ _ _ _
  refine W.widen (k := 13) (n := 122) (Nat.le_of_ble_eq_true rfl) (Nat.le_of_ble_eq_true rfl) ?_
  have hB : s.heap.size + 13 = B + (k + 14) := by omega
  refine va_putF (D := D) (ci := 0) (v := .ref (adr B (k + 11))) (ty := .object "ReplayGroup$NumberedRow") (C := RX0) (T := TX0) (N := 8) hx hb hts inX0 tyX0 tyX0_ok nmX0 hown hK hP nD hS k (n_at (by omega) f_k) rfl 3 (by decide) (hts _ k_84) (fun _ h9 => h9) rfl hin rfl (by decide +kernel) rfl rfl (Nat.le_of_ble_eq_true rfl) dX0_init_47 (fun H locs hP _ hS => ?_)
  have hP := n_put (by omega) hP
  have hP : va_P D vwCl (mw (k + 14) (adr B) (w_M_12 cs B k g)) H := hP
  have f_k1 : (w_M_12 cs B k g) (k + 1) = .inr (2, [.ref (adr B ((k + 1) + 1)), .ref (adr B ((k + 1) + 2)), .ref (adr B ((k + 1) + 3)), .int 0]) := (va_up_ne _ _ (by omega)).trans f_k1
  have f_k5 : (w_M_12 cs B k g) (k + 5) = .inr (3, [.ref (adr B ((k + 5) + 1)), .ref (adr B ((k + 5) + 2)), .int 0, .int 0, .int 0, .int 0]) := (va_up_ne _ _ (by omega)).trans f_k5
  have f_k8 : (w_M_12 cs B k g) (k + 8) = .inr (3, [.ref (adr B ((k + 8) + 1)), .ref (adr B ((k + 8) + 2)), .int 0, .int 0, .int 0, .int 0]) := (va_up_ne _ _ (by omega)).trans f_k8
  have f_k11 : (w_M_12 cs B k g) (k + 11) = .inr (1, [.ref (adr B ((k + 11) + 1)), .ref (adr B ((k + 11) + 2)), .int 0, .int 0]) := (va_up_ne _ _ (by omega)).trans f_k11
  have f_k : (w_M_12 cs B k g) k = .inr (0, [.ref (adr B (k + 1)), .ref (adr B (k + 5)), .ref (adr B (k + 8)), .ref (adr B (k + 11)), .int 0, .int 0, .int 0, .int 0]) := va_up_self _ _ _
  refine lv_aload_n hx hb dX0_init_50 rfl (lv_at hl 0 rfl) ?_
  refine lv_iconst (v := 1) hx hb dX0_init_51 (by decide) ?_
  refine va_put (D := D) (ci := 0) (v := .int 1) (ty := .boolean) (C := RX0) (T := TX0) (N := 8) hx hb hts inX0 tyX0 tyX0_ok nmX0 hown hK hP nD hS k (n_at (by omega) f_k) rfl 4 (by decide) (hts _ k_86) (fun _ h9 => h9) rfl (by decide +kernel) rfl rfl (Nat.le_of_ble_eq_true rfl) dX0_init_52 (fun H locs hP _ hS => ?_)
  have hP := n_put (by omega) hP
  have hP : va_P D vwCl (mw (k + 14) (adr B) (w_M_13 cs B k g)) H := hP
  have f_k1 : (w_M_13 cs B k g) (k + 1) = .inr (2, [.ref (adr B ((k + 1) + 1)), .ref (adr B ((k + 1) + 2)), .ref (adr B ((k + 1) + 3)), .int 0]) := (va_up_ne _ _ (by omega)).trans f_k1
  have f_k5 : (w_M_13 cs B k g) (k + 5) = .inr (3, [.ref (adr B ((k + 5) + 1)), .ref (adr B ((k + 5) + 2)), .int 0, .int 0, .int 0, .int 0]) := (va_up_ne _ _ (by omega)).trans f_k5
  have f_k8 : (w_M_13 cs B k g) (k + 8) = .inr (3, [.ref (adr B ((k + 8) + 1)), .ref (adr B ((k + 8) + 2)), .int 0, .int 0, .int 0, .int 0]) := (va_up_ne _ _ (by omega)).trans f_k8
  have f_k11 : (w_M_13 cs B k g) (k + 11) = .inr (1, [.ref (adr B ((k + 11) + 1)), .ref (adr B ((k + 11) + 2)), .int 0, .int 0]) := (va_up_ne _ _ (by omega)).trans f_k11
  have f_k : (w_M_13 cs B k g) k = .inr (0, [.ref (adr B (k + 1)), .ref (adr B (k + 5)), .ref (adr B (k + 8)), .ref (adr B (k + 11)), .int 1, .int 0, .int 0, .int 0]) := va_up_self _ _ _
  exact n_ret hx hb hr hlocks dX0_init_55 hP hS
theorem n_M_own (cs : Nat → ClassId) (B k : Nat) (g : Nat → va_E) : w_M_13 cs B k g k = .inr (0, [.ref (adr B (k + 1)), .ref (adr B (k + 5)), .ref (adr B (k + 8)), .ref (adr B (k + 11)), .int 1, .int 0, .int 0, .int 0]) := va_up_self _ _ _
