theorem lw_retA {p : Program} {l : Launch} {e : Env} {s : State} {m : MethodId} {args : Array Value} {below : List Frame} {meth : Method} {c : Code} {b : Nat} (hx : p.tables.exec = Jvm.exec) (hb : c.code = code) (hr : meth.sig.returnType = ret) (hlocks : meth.locks = false) {pc : Nat} {H : Heap} {ls : Array Slot} (hdg : decode code pc = .ok (.ireturn, 1)) : W p l e room_1 s m args below meth c H [] 600000 7302250 (lw_Z below #[Value.ref b] s) (F0 m pc ls [.int 1]) := by
  intro T hT X
  obtain ⟨fs, hret, hrun, hended, hW, hframe⟩ := X.leave (v := some (.int 1)) (hlocks := hlocks) (fun h => by rw [hr] at h; cases h)
  have hmeth' : T.vm.method? m = some meth := X.method'
  refine ⟨T.setFrames fs, ?_, .returned (some (.int 1)), hrun, hended, rfl, ⟨_, rfl⟩, hW, hframe⟩
  jvm_step X.here [X.here.top, hx, hb, hdg, hmeth', hr, ret, narrow_b1]
  (try refine ⟨rfl, ?_⟩); (try refine ⟨rfl, ?_⟩)
  first | (intro acts; rw [hret _ acts rfl rfl rfl]) | rw [hret _ _ rfl rfl rfl]
  exact Steps.refl _
theorem lw_end (l : Launch) (G : xG) (nm : String) {P : State → Prop} {b : Nat} (hz : ∀ s, P s → s.heap.size = G.2.2) (I : xI) (i : Nat) : XW l G room_1 ⟨"RoundAndRoundLaw", nm, ""⟩ code 4 ret (xKL P) (fun below _ s => lw_Z below #[.ref b] s) 75 (xm G xYf I) 75 4269 1775 [(0, .ref b), (1, .ref (xg G 0)), (2, .ref (xg G 59)), (3, .int (nI i))] [.int 1] := by
  intro p e s m args below meth c H locs ls hc hH hS hL
  refine va_forget (fun q hq => ?_) ?_
  · rw [hz s hc.2.2.2.2.2.2.2.2.2.1]
    exact hS.2.2 q hq
  · exact W.widen (Nat.le_of_ble_eq_true rfl) (Nat.le_of_ble_eq_true rfl) (lw_retA hc.1 hc.2.1 hc.2.2.2.1 hc.2.2.2.2.1 d_law_1775)
theorem lw_nth {α : Type} {P : α → Prop} {y q : α} (h : some y = some q) (hp : P y) : P q := Option.some.inj h ▸ hp
theorem lw_aI {A : Array Value} {s : State} (h : (Cond.arrayClass .int).before A s = true) : ∃ cA, ArrOfT s cA .int ∧ va_RA s cA .int := by
  obtain ⟨cA, kA, comp, h1, h2, h3⟩ := Cond.arrayClass_spec h
  exact ⟨cA, fun n z => ⟨(fun k h => by cases h), kA, h2, comp, h3⟩, h1⟩
theorem lw_aL {A : Array Value} {s : State} (h : (Cond.arrayClass .long).before A s = true) : ∃ cA, ArrOfT s cA .long ∧ va_RA s cA .long := by
  obtain ⟨cA, kA, comp, h1, h2, h3⟩ := Cond.arrayClass_spec h
  exact ⟨cA, fun n z => ⟨(fun k h => by cases h), kA, h2, comp, h3⟩, h1⟩
theorem lw_aO {A : Array Value} {s : State} {C : String} (h : (Cond.arrayOver (.object C)).before A s = true) : ∃ cA, ArrOfT s cA (.object C) ∧ va_RA s cA (.object C) := by
  obtain ⟨comp, cA, kA, h1, h2, h3, h4, h5⟩ := Cond.arrayOver_spec h
  exact ⟨cA, fun n z => ⟨(fun k h => by cases h), kA, h3, comp, h4⟩, kA, comp, h3, h4, h1, h5⟩
theorem lw_t1 {w : Cond} (j : Nat) (hj : tables_1_1[j]? = some w) : w ∈ lw_tbl := by
  have h := List.mem_of_getElem? hj
  exact List.mem_append_right _ (show w ∈ tables_1_1 ++ (tables_1_2 ++ (tables_1_3 ++ (tables_1_4 ++ tables_1_5))) from List.mem_append_left _ h)
theorem lw_t2 {w : Cond} (j : Nat) (hj : tables_1_2[j]? = some w) : w ∈ lw_tbl := by
  have h := List.mem_of_getElem? hj
  exact List.mem_append_right _ (show w ∈ tables_1_1 ++ (tables_1_2 ++ (tables_1_3 ++ (tables_1_4 ++ tables_1_5))) from List.mem_append_right _ (List.mem_append_left _ h))
theorem lw_t3 {w : Cond} (j : Nat) (hj : tables_1_3[j]? = some w) : w ∈ lw_tbl := by
  have h := List.mem_of_getElem? hj
  exact List.mem_append_right _ (show w ∈ tables_1_1 ++ (tables_1_2 ++ (tables_1_3 ++ (tables_1_4 ++ tables_1_5))) from List.mem_append_right _ (List.mem_append_right _ (List.mem_append_left _ h)))
/-- a literal of the pool: what is known of it -/
theorem lw_str {G : xG} {s : State} {A : Array Value} {tm : Term} {N : Nat} {f : Nat → Int32} (hN : N < 2 ^ 31) (hcs : va_Z "java/lang/String" "COMPACT_STRINGS" "Z" (.int 1) (xF G) s s.heap) (hfm : ∃ w : Value, w.isRef = true ∧ va_Z "jdk/internal/util/Preconditions" "SIOOBE_FORMATTER" "Ljava/util/function/BiFunction;" w (xF G) s s.heap) (hex : (Cond.exactly tm "java/lang/String").before A s = true) (hco : (Cond.eq (.field tm "java/lang/String" "coder" "B") (.int 0)).before A s = true) (har : (Cond.arrayOf (.field tm "java/lang/String" "value" "[B") .byte).before A s = true) (hle : (Cond.eq (.length (.field tm "java/lang/String" "value" "[B")) (.int (Int32.ofNat N))).before A s = true) (hel : ∀ j : Nat, j < N → (Cond.eq (.elem (.field tm "java/lang/String" "value" "[B") (.int (Int32.ofNat j))) (.int (f j))).before A s = true) (hA : ∀ a : Nat, a < s.heap.size → ¬ xF G a) : ∃ q v : Nat, tm.eval A s none [] s = some (.ref q) ∧ xJ G q v N f s := by
  obtain ⟨a, c, cA, kA, q1, -⟩ := Cond.exactly_spec (args := A) (first := s) (o := none) (s := s) (idx := []) (t := tm) (cls := "java/lang/String") hex
  obtain ⟨t, ht, hT⟩ := va_Tof (f := fun j => .int (f j)) (A := xF G) hN har (va_eqt hle) (fun j hj => va_eqt (hel j hj)) hA
  exact ⟨a, t, q1, hcs, hfm, va_Oof hex q1 hA, vk_OFof q1 (va_eqt hco) hA, vk_OFof q1 ht hA, hT⟩
set_option maxRecDepth 100000 in
theorem lw_b1 : ∀ j : Nat, j < 61 → Cond.eq (.elem (.field (.string "RoundAndRound$Reader" 19) "java/lang/String" "value" "[B") (.int (Int32.ofNat j))) (.int (xla wBy j)) ∈ flatC (Jvm.Cond.and given_1 narrow_1) := by decide +kernel
set_option maxRecDepth 100000 in
theorem lw_b2 : ∀ j : Nat, j < 48 → Cond.eq (.elem (.field (.string "RoundAndRound" 75) "java/lang/String" "value" "[B") (.int (Int32.ofNat j))) (.int (xla wFirst j)) ∈ flatC (Jvm.Cond.and given_1 narrow_1) := by decide +kernel
/-- the room of addresses and numbers of classes that the machine gives at the law's entry -/
theorem lw_world {A : Array Value} {s : State} (hts : ∀ w ∈ lw_tbl, w.before A s = true) : ∃ G : xG, G.2.2 = s.heap.size ∧ xK G s := by
  obtain ⟨c0, s0, k0⟩ := u_known (C := R_X) (T := F_X) (N := 15) (n := 15) hts (fun w hw => xT_in (i_X w hw)) (hts _ (xT_in is_X))
  obtain ⟨c1, s1, k1⟩ := u_known (C := R_Head) (T := F_Head) (N := 8) (n := 8) hts (fun w hw => xT_in (i_Head w hw)) (hts _ (xT_in is_Head))
  obtain ⟨c2, s2, k2⟩ := u_known (C := R_Text) (T := F_Text) (N := 5) (n := 5) hts (fun w hw => xT_in (i_Text w hw)) (hts _ (xT_in is_Text))
  obtain ⟨c3, s3, k3⟩ := u_known (C := R_Reader) (T := F_Reader) (N := 9) (n := 9) hts (fun w hw => xT_in (i_Reader w hw)) (hts _ (xT_in is_Reader))
  obtain ⟨c4, s4, k4⟩ := u_known (C := R_Sheet) (T := F_Sheet) (N := 3) (n := 3) hts (fun w hw => xT_in (i_Sheet w hw)) (hts _ (xT_in is_Sheet))
  obtain ⟨c5, s5, k5⟩ := u_known (C := R_Model) (T := F_Model) (N := 34) (n := 34) hts (fun w hw => xT_in (i_Model w hw)) (hts _ (xT_in is_Model))
  obtain ⟨a0, r0⟩ := lw_aI (hts _ (lw_t1 89 rfl))
  obtain ⟨a1, r1⟩ := lw_aL (hts _ (lw_t1 176 rfl))
  obtain ⟨a2, r2⟩ := lw_aO (C := R_Head) (hts _ (lw_t1 23 rfl))
  obtain ⟨a3, r3⟩ := lw_aO (C := R_Text) (hts _ (lw_t1 67 rfl))
  obtain ⟨a4, r4⟩ := lw_aO (C := R_Sheet) (hts _ (lw_t1 179 rfl))
  refine ⟨(((fun k => match k with | 0 => c0 | 1 => c1 | 2 => c2 | 3 => c3 | 4 => c4 | _ => c5 : Nat → ClassId), (fun k => match k with | 0 => s0 | 1 => s1 | 2 => s2 | 3 => s3 | 4 => s4 | _ => s5 : Nat → Nat → Nat)), (fun k => match k with | 0 => a0 | 1 => a1 | 2 => a2 | 3 => a3 | _ => a4 : Nat → ClassId), s.heap.size), rfl, ⟨fun k q hk => ?_, fun k q hk => ?_⟩, ?_, ?_, ?_, ?_⟩
  · match k, hk with
    | 0, hk => exact lw_nth (P := fun q : vw_C => u_Kn s q.1 q.2.1 q.2.2 c0 s0) hk k0
    | 1, hk => exact lw_nth (P := fun q : vw_C => u_Kn s q.1 q.2.1 q.2.2 c1 s1) hk k1
    | 2, hk => exact lw_nth (P := fun q : vw_C => u_Kn s q.1 q.2.1 q.2.2 c2 s2) hk k2
    | 3, hk => exact lw_nth (P := fun q : vw_C => u_Kn s q.1 q.2.1 q.2.2 c3 s3) hk k3
    | 4, hk => exact lw_nth (P := fun q : vw_C => u_Kn s q.1 q.2.1 q.2.2 c4 s4) hk k4
    | 5, hk => exact lw_nth (P := fun q : vw_C => u_Kn s q.1 q.2.1 q.2.2 c5 s5) hk k5
    | k + 6, hk => cases hk
  · match k, hk with
    | 0, hk => exact lw_nth (P := fun q : ClassId × FieldType => ArrOfT s q.1 q.2 ∧ va_RA s q.1 q.2) hk r0
    | 1, hk => exact lw_nth (P := fun q : ClassId × FieldType => ArrOfT s q.1 q.2 ∧ va_RA s q.1 q.2) hk r1
    | 2, hk => exact lw_nth (P := fun q : ClassId × FieldType => ArrOfT s q.1 q.2 ∧ va_RA s q.1 q.2) hk r2
    | 3, hk => exact lw_nth (P := fun q : ClassId × FieldType => ArrOfT s q.1 q.2 ∧ va_RA s q.1 q.2) hk r3
    | 4, hk => exact lw_nth (P := fun q : ClassId × FieldType => ArrOfT s q.1 q.2 ∧ va_RA s q.1 q.2) hk r4
    | k + 5, hk => cases hk
  · simp only [xnest, List.forall_mem_cons]
    exact ⟨va_Nw.of rfl (hts _ (lw_t1 25 rfl)), va_Nw.of rfl (hts _ (lw_t1 69 rfl)), va_Nw.of rfl (hts _ (lw_t1 181 rfl)), va_Nw.of rfl (hts _ (lw_t2 232 rfl)), va_Nw.of rfl (hts _ (lw_t3 0 rfl)), va_Nw.of rfl (hts _ (lw_t3 173 rfl)), va_Nw.of rfl (hts _ (lw_t2 169 rfl)), fun _ h => absurd h List.not_mem_nil⟩
  · exact va_AO.of (hts _ (lw_t1 23 rfl))
  · exact va_AO.of (hts _ (lw_t1 67 rfl))
  · exact va_AO.of (hts _ (lw_t1 179 rfl))
/-- the literals at the law's entry -/
theorem lw_lits {G : xG} {A : Array Value} {s : State} (hG : G.2.2 = s.heap.size) (hts : ∀ w ∈ lw_tbl, w.before A s = true) (hgv : (Jvm.Cond.and given_1 narrow_1).before A s = true) : ∃ q1 v1 q v : Nat, PX G q1 v1 q v s := by
  have hs := flat_of_before _ hgv
  have hA : ∀ a : Nat, a < s.heap.size → ¬ xF G a := fun a ha h => absurd (show G.2.2 ≤ a from h) (by omega)
  have hcs : va_Z "java/lang/String" "COMPACT_STRINGS" "Z" (.int 1) (xF G) s s.heap := va_Zof (hts _ (lw_t1 106 rfl)) (hts _ (lw_t1 5 rfl)) (va_eqi (hs _ (by decide +kernel))) hA
  have hfm : ∃ w : Value, w.isRef = true ∧ va_Z "jdk/internal/util/Preconditions" "SIOOBE_FORMATTER" "Ljava/util/function/BiFunction;" w (xF G) s s.heap := by
    have h : (Cond.isRef (.static "jdk/internal/util/Preconditions" "SIOOBE_FORMATTER" "Ljava/util/function/BiFunction;")).before A s = true := hs _ (by decide +kernel)
    obtain ⟨w, h1, h2⟩ := Cond.isRef_spec h
    exact ⟨w, h2, va_Zof (hts _ (lw_t1 122 rfl)) (hts _ (lw_t1 7 rfl)) h1 hA⟩
  obtain ⟨q1, v1, e1, j1⟩ := lw_str (N := 48) (f := xla wFirst) (tm := .string "RoundAndRound" 75) (by decide) hcs hfm (hs _ (by decide +kernel)) (hs _ (by decide +kernel)) (hs _ (by decide +kernel)) (hs _ (by decide +kernel)) (fun j hj => hs _ (lw_b2 j hj)) hA
  obtain ⟨q, v, e2, j2⟩ := lw_str (N := 61) (f := xla wBy) (tm := .string "RoundAndRound$Reader" 19) (by decide) hcs hfm (hs _ (by decide +kernel)) (hs _ (by decide +kernel)) (hs _ (by decide +kernel)) (hs _ (by decide +kernel)) (fun j hj => hs _ (lw_b1 j hj)) hA
  exact ⟨q1, v1, q, v, vk_R.of (hts _ (lw_t1 198 rfl)) e1, j1, vk_R.of (hts _ (lw_t1 96 rfl)) e2, j2⟩
set_option maxHeartbeats 4000000 in
theorem whole_start {p : Program} {e : Env} {s : State} {m : MethodId} {below : List Frame} {meth : Method} {c : Code} (l : Launch) (hflags : l.flags = flags0) {b L : Nat} {xs : Nat → Int32} (hL : L ≤ 3584) (C0 : lw_At p s m meth c b L xs) : W p l e room_1 s m #[Value.ref b] below meth c s.heap [] 0 0 (lw_Z below #[Value.ref b] s) (entryFrame m ([Value.ref b] : List Value).toArray 4) := by
  obtain ⟨hx, hb, hr, hml, hown, hts, hX, hbl, hlocks, hgv⟩ := C0
  obtain ⟨G, hG, hK⟩ := lw_world hts
  obtain ⟨q1, v1, q, v, hPX⟩ := lw_lits hG hts hgv
  have hl := lv_entry ([.ref b]) (n := 4) (Nat.le_of_ble_eq_true rfl)
  rw [lg_entry_eq]
  generalize (lg_sl ([.ref b]) ++ List.replicate (4 - (lg_sl ([.ref b])).length) Slot.unset).toArray = ls at hl ⊢
  have hl : lv_has ls 4 [(0, .ref b)] := hl
  have hbA : ¬ xF G b := fun h => absurd (show G.2.2 ≤ b from h) (by omega)
  exact w_law l G meth.name (P := fun U => PX G q1 v1 q v U ∧ xScr G b L xs U ∧ U.heap.size = G.2.2) (fun _ h => h.2.1) hL ⟨fun _ _ h hW hk => PX_self.1 _ _ h.1 hW hk, PX_self.2⟩ (fun I i => lw_end l G meth.name (fun _ h => h.2.2) I i) p e s m #[.ref b] below meth c s.heap [] ls ⟨hx, hb, hml, hr, hlocks, hown, rfl, fun w hw => hts w (xT_in hw), hK, ⟨hPX, ⟨hX, hbl, hbA⟩, hG.symm⟩, by rw [hG]; exact Nat.le_refl _⟩ ⟨hG.symm, fun _ _ => rfl, fun k z h => by cases h⟩ va_S.rf hl
