def f2 (t : Nat) (F : xI → xI) : Prop := ∀ I, (F I) (t + 2) = I (t + 2) ∧ (F I) t 4 = I t 4
theorem f2_id (t : Nat) : f2 t id := fun _ => ⟨rfl, rfl⟩
theorem f2_adv {t : Nat} (ht : 15 ≤ t) : f2 t iAdv := fun I => ⟨xup_n _ _ (by omega), by rw [iAdv, xup_n _ _ (by omega)]⟩
theorem f2_w11 {t : Nat} (ht : 15 ≤ t) (I : xI) (k : Nat) (v : Int32) : (xw I 11 k v) (t + 2) = I (t + 2) ∧ (xw I 11 k v) t 4 = I t 4 := ⟨xw_row _ _ _ (by omega), by rw [xw_row _ _ _ (by omega)]⟩
theorem f2_fail {t : Nat} (ht : 15 ≤ t) : f2 t iFail := fun I => f2_w11 ht I 8 _
theorem f2_inc {t : Nat} (ht : 15 ≤ t) : f2 t iInc := fun I => f2_w11 ht I 7 _
theorem f2_dec {t : Nat} (ht : 15 ≤ t) : f2 t iDec := fun I => f2_w11 ht I 7 _
theorem f2_add (t : Nat) (v : Int32) : f2 t (iAdd t v) := by
  intro I
  unfold iAdd
  split
  · exact ⟨by rw [xw_row _ _ _ (by omega), xw_row _ _ _ (by omega)], by rw [xw_k _ _ _ (by decide), xw_row _ _ _ (by omega)]⟩
  · exact ⟨rfl, rfl⟩
theorem f2_c {t : Nat} {F H : xI → xI} (h : f2 t F) (h2 : f2 t H) : f2 t (fun I => H (F I)) := fun I => ⟨(h2 (F I)).1.trans (h I).1, (h2 (F I)).2.trans (h I).2⟩
theorem f2_exp {t : Nat} (ht : 15 ≤ t) (w : Int32) : f2 t (iExp w) := by
  have h1 : f2 t (iTok w) := by
    intro I
    unfold iTok
    split
    · exact ⟨rfl, rfl⟩
    · exact f2_fail ht I
  intro I
  unfold iExp
  split
  · exact h1 I
  · exact f2_c h1 (f2_adv ht) I
theorem f2_lop {t : Nat} (ht : 15 ≤ t) {sub : xI → xI} (h : f2 t sub) (tok item : Int32) : ∀ j, f2 t (iLop sub t tok item j)
  | 0 => f2_id t
  | j + 1 => by
    intro I
    rw [iLop]
    split
    · exact f2_c (f2_adv ht) (f2_c h (f2_c (f2_add t item) (f2_lop ht h tok item j))) I
    · exact ⟨rfl, rfl⟩
theorem f2_lev {t : Nat} (ht : 15 ≤ t) {sub : xI → xI} (h : f2 t sub) (tok item : Int32) : f2 t (iLev sub t tok item) := f2_c (F := sub) (H := iLop sub t tok item 160) h (f2_lop ht h tok item 160)
theorem f2_sop {t : Nat} (ht : 15 ≤ t) {sub : xI → xI} (h : f2 t sub) : ∀ j, f2 t (iSop sub t j)
  | 0 => f2_id t
  | j + 1 => by
    intro I
    rw [iSop]
    split
    · exact f2_c (f2_adv ht) (f2_c h (f2_c (f2_add t _) (f2_sop ht h j))) I
    · exact ⟨rfl, rfl⟩
theorem f2_sum {t : Nat} (ht : 15 ≤ t) {sub : xI → xI} (h : f2 t sub) : f2 t (iSum sub t) := f2_c (F := sub) (H := iSop sub t 160) h (f2_sop ht h 160)
theorem f2_not {t : Nat} (ht : 15 ≤ t) {nt sum : xI → xI} (h : f2 t nt) (h2 : f2 t sum) : f2 t (iNot nt sum t) := by
  intro I
  unfold iNot
  split
  · split
    · exact f2_fail ht I
    · exact f2_c (f2_inc ht) (f2_c (f2_adv ht) (f2_c h (f2_c (f2_dec ht) (f2_add t 30000)))) I
  · split
    · exact f2_c h2 (f2_c (f2_adv ht) (f2_c h2 (f2_add t _))) I
    · exact h2 I
theorem f2_one {t : Nat} (ht : 15 ≤ t) {one orr : xI → xI} (h : f2 t one) (h2 : f2 t orr) : f2 t (iOne one orr t) := by
  intro I
  unfold iOne
  split
  · exact ⟨rfl, rfl⟩
  · split
    · exact f2_c (f2_add t _) (f2_adv ht) I
    · split
      · exact f2_c (f2_add t _) (f2_adv ht) I
      · split
        · split
          · exact f2_fail ht I
          · exact f2_c (f2_inc ht) (f2_c (f2_adv ht) (f2_c h (f2_c (f2_dec ht) (f2_add t 30001)))) I
        · split
          · split
            · exact f2_fail ht I
            · exact f2_c (f2_inc ht) (f2_c (f2_adv ht) (f2_c h2 (f2_c (f2_dec ht) (f2_exp ht 41)))) I
          · exact f2_fail ht I
theorem f2_or {t : Nat} (ht : 15 ≤ t) {nt : xI → xI} (h : f2 t nt) : f2 t (iOr nt t) := f2_lev ht (f2_lev ht h 132 20001) 131 20000
theorem f2_sm {t : Nat} (ht : 15 ≤ t) {one : xI → xI} (h : f2 t one) : f2 t (iSm one t) := f2_sum ht (f2_lev ht h 42 20006)
theorem f2_lv {t : Nat} (ht : 15 ≤ t) : ∀ k, f2 t (iLv t k).1 ∧ f2 t (iLv t k).2
  | 0 => ⟨f2_one ht (f2_id t) (f2_id t), f2_not ht (f2_id t) (f2_sm ht (f2_one ht (f2_id t) (f2_id t)))⟩
  | k + 1 => by
    obtain ⟨a, b⟩ := f2_lv ht k
    exact ⟨f2_one ht a (f2_or ht b), f2_not ht b (f2_sm ht (f2_one ht a (f2_or ht b)))⟩
theorem f2_E {t : Nat} (ht : 15 ≤ t) : f2 t (iE t) := f2_or ht (f2_lv ht 5).2
theorem zGo_run {wd g : Nat → Int32} {n p : Nat} {K : List Int32} {o : Int32} {cs : List Int32} {w y : Bool} {p1 : Nat} {K1 : List Int32} {o1 : Int32} {c1 : List Int32} {w1 y1 : Bool} (hn : n ≤ 160) (hp : p1 ≤ n) (h : zGo wd g n p K o cs w y p1 K1 o1 c1 w1 y1) {b : Bool} {K2 : List Int32} {o2 : Int32} {c2 : List Int32} (h2 : zStp (zTk wd g n (zBl g n p1)) (zVa wd g n (zBl g n p1)) K1 o1 c1 w1 y1 = .inl (b, K2, o2, c2)) : zRun wd g n 161 p K o cs w y = (b, p1, K2, o2, c2) := by
  obtain ⟨a, j, hj, e⟩ := h
  have := e (160 - j + 1)
  rw [show 160 - j + 1 + j = 161 by omega] at this
  rw [this]
  exact zRun_i h2
theorem zNo_run {wd g : Nat → Int32} {n p : Nat} {K : List Int32} {o : Int32} {cs : List Int32} {w y : Bool} {q : Nat} (hn : n ≤ 160) (h : zNo wd g n p K o cs w y q) : (zRun wd g n 161 p K o cs w y).1 = false ∧ zBl g n (zRun wd g n 161 p K o cs w y).2.1 = q := by
  obtain ⟨j, hj, e⟩ := h
  have := e (161 - j)
  rw [show 161 - j + j = 161 by omega] at this
  exact this
theorem tkOf_3 {c : Int32} (h : c = -1 ∨ c = 0 ∨ c = 1 ∨ c = 40 ∨ c = 41 ∨ c = 59 ∨ c = 43 ∨ c = 45 ∨ c = 42 ∨ c = 60 ∨ c = 61 ∨ c = 128 ∨ c = 129 ∨ c = 130 ∨ c = 131 ∨ c = 132 ∨ c = 133 ∨ c = 134 ∨ c = 135 ∨ c = 136 ∨ c = 137 ∨ c = 138 ∨ c = 139) : (tkOf c = 3 → c = 128 ∨ c = 129 ∨ c = 130) ∧ (tkOf c = 0 → c = 0) := by
  rcases h with rfl | rfl | rfl | rfl | rfl | rfl | rfl | rfl | rfl | rfl | rfl | rfl | rfl | rfl | rfl | rfl | rfl | rfl | rfl | rfl | rfl | rfl | rfl <;> decide
theorem iEnd_11 {t : Nat} (ht : 15 ≤ t) (I : xI) : (iEnd t I) 11 = I 11 := by
  unfold iEnd
  split
  · rw [xw_row _ _ _ (by omega), xw_row _ _ _ (by omega)]
  · rfl
theorem part_stk {wd g : Nat → Int32} {n t : Nat} (hW : ∀ j, j < 96 → wd j = zWd j) (hB : ∀ j, j < n → ¬ g j < 0) (hn : n ≤ 160) (ht : 15 ≤ t) (w : Int32) : STK (iPart t w) := by
  intro I hI
  have hE := (e_sim (wd := wd) hW hB hn ht).2
  have h1 := iExp_f (w := w) hI
  have h1b : 0 ≤ (iExp w I) 11 8 := by rw [h1]; exact hI
  have h2 := hE _ h1b
  have h2b : 0 ≤ (iE t (iExp w I)) 11 8 := by rw [h2]; exact h1b
  have h3 := iExp_f (w := 59) h2b
  rw [iPart, iEnd_11 ht, h3, h2, h1]
theorem RC_end {g : Nat → Int32} {n t : Nat} {I : xI} {p : Nat} {cs : List Int32} {o k : Nat} (ht : 15 ≤ t) (h : RC g n t I p cs o) (hk : I t 4 = nI k) (hk3 : k < 3) : RC g n t (iEnd t I) p cs o ∧ (iEnd t I) t 4 = nI (k + 1) ∧ (iEnd t I) (t + 2) = xup (I (t + 2)) k (nI cs.length) := by
  have hcs : I t 3 = nI cs.length := h.2.2.2.2.1
  have e : iEnd t I = xw (xw I (t + 2) k (nI cs.length)) t 4 (nI (k + 1)) := by
    rw [iEnd, if_pos (by rw [hk]; exact ⟨Int32.not_lt.mp (nI_pos (by omega)), (nI_ltI (b := 3) (by omega) (by decide)).mpr hk3⟩), hk, nI_cl (by omega), nI_1, hcs]
  obtain ⟨⟨h12, h2, hp⟩, ⟨h3, h4, h5, nu, h6⟩, h7, h8, ht3, hc⟩ := h
  have r11 : (iEnd t I) 11 = I 11 := iEnd_11 ht I
  refine ⟨⟨⟨?_, ?_, hp⟩, ⟨?_, ?_, ?_, nu, ?_⟩, ?_, ?_, ?_, fun j hj => ?_⟩, ?_, ?_⟩
  · rw [e, xw_row _ _ _ (by omega), xw_row _ _ _ (by omega)]; exact h12
  · rw [r11]; exact h2
  · rw [r11]; exact h3
  · rw [r11]; exact h4
  · rw [r11]; exact h5
  · rw [r11]; exact h6
  · rw [r11]; exact h7
  · rw [r11]; exact h8
  · rw [e, xw_k _ _ _ (by decide), xw_row _ _ _ (by omega)]; exact ht3
  · rw [e, xw_row _ _ _ (by omega), xw_row _ _ _ (by omega)]; exact hc j hj
  · rw [e, xw_s]
  · rw [e, xw_row _ _ _ (by omega), xw_is, xup_s]
theorem part_sim {wd g : Nat → Int32} {n t : Nat} (hW : ∀ j, j < 96 → wd j = zWd j) (hB : ∀ j, j < n → ¬ g j < 0) (hn : n ≤ 160) (ht : 15 ≤ t) {k : Nat} (hk : k < 3) {I : xI} {p : Nat} {cs : List Int32} (h : RC g n t I p cs 0) (hl : cs.length ≤ p) (h4 : I t 4 = nI k) :
    (∃ p' X, RC g n t (iPart t (128 + nI k) I) p' (cs ++ X) 0 ∧ zGd wd g n (nI k) p cs p' (cs ++ X) ∧ tDep X 0 = true ∧ (cs ++ X).length ≤ p' ∧ (iPart t (128 + nI k) I) t 4 = nI (k + 1) ∧ (iPart t (128 + nI k) I) (t + 2) = xup (I (t + 2)) k (nI (cs ++ X).length)) ∨ (∃ q, q ≤ 160 ∧ (iPart t (128 + nI k) I) 11 8 = nI q ∧ zBd wd g n (nI k) p cs q) := by
  have hp := h.1.2.2
  have hbl := zBl_b g hp
  have hE := e_sim (wd := wd) hW hB hn ht
  have hlx := lex_all wd g n (zBl g n p) hW hB hn hbl.2
  have htk : zTk wd g n (zBl g n p) = tkOf (zc g n p) := hlx.1
  have hk2 : nI k = 0 ∨ nI k = 1 ∨ nI k = 2 := by
    have hz : k = 0 ∨ k = 1 ∨ k = 2 := by omega
    rcases hz with rfl | rfl | rfl
    · exact Or.inl rfl
    · exact Or.inr (Or.inl rfl)
    · exact Or.inr (Or.inr rfl)
  by_cases hc : zc g n p = 128 + nI k
  · have h3 : zTk wd g n (zBl g n p) = 3 := by
      rw [htk, hc]
      rcases hk2 with e | e | e <;> rw [e] <;> decide
    have hv : zVa wd g n (zBl g n p) = nI k := by
      have := hlx.2.1.1
      rw [show vTk g n (zBl g n p) = 128 + nI k from hc] at this
      rcases hk2 with e | e | e <;> rw [e] at this ⊢ <;> exact this (by decide) (by decide)
    have hq := zc_lt (g := g) (n := n) (p := p) (by rw [hc]; rcases hk2 with e | e | e <;> rw [e] <;> decide)
    have hx := vNx_b hB hn hq
    have hadv := RC_adv hB hn ht h hq
    have e1 := iExp_y h hc
    have f1 := f2_exp ht (128 + nI k) I
    rcases hE.1 _ _ [] cs true hadv (stab_nil 1) (by simp; omega) (show yk true g n _ true from rfl) with ⟨p', X, K2, o2, cs2, y2, b1, b2, b3, b4, b5, b6, b7⟩ | ⟨f, b1, b2, b3⟩
    · have hp' := b1.1.2.2
      have hbl' := zBl_b g hp'
      have hU : zUn 1 K2 o2 cs2 = ([], nI 0, cs ++ X) := b4
      by_cases h59 : zc g n p' = 59
      · have hq2 := zc_lt (g := g) (n := n) (p := p') (by rw [h59]; decide)
        have hx2 := vNx_b hB hn hq2
        have hst : zStp (zTk wd g n (zBl g n p')) (zVa wd g n (zBl g n p')) K2 o2 cs2 false y2 = .inl (true, [], nI 0, cs ++ X) := by
          rw [zLk_tok hW hB hn hp', h59, show tkOf 59 = 59 from rfl]
          unfold zStp
          rw [if_neg (by decide), if_pos rfl, hU]
          rfl
        have hrun := zGo_run hn hp' b3 hst
        have e2 : iPart t (128 + nI k) I = iEnd t (iAdv (iE t (iAdv I))) := by rw [iPart, e1, iExp_y b1 h59]
        have hr2 := RC_adv hB hn ht b1 hq2
        have hf : (iAdv (iE t (iAdv I))) (t + 2) = I (t + 2) ∧ (iAdv (iE t (iAdv I))) t 4 = I t 4 := f2_c (f2_adv ht) (f2_c (f2_E ht) (f2_adv ht)) I
        have hend := RC_end ht hr2 (hf.2.trans h4) hk
        have hlen : (cs ++ X).length ≤ p' := by simpa using b7
        rw [e2]
        refine Or.inl ⟨_, X, hend.1, ⟨h3, hv, ?_, ?_, ?_⟩, ?_, by omega, hend.2.1, ?_⟩
        · unfold zE; rw [show (0 : Int32) = nI 0 from rfl, hrun]
        · unfold zE; rw [show (0 : Int32) = nI 0 from rfl, hrun]
        · unfold zE; rw [show (0 : Int32) = nI 0 from rfl, hrun]
        · have := b6 [] 0 (by omega)
          rw [List.append_nil] at this
          rw [this]
          rfl
        · rw [hend.2.2, hf.1]
      · have hno := zNo_run hn (zGo_no b3 hp' (end_no hW hB hn ht hp' b5 hU (fun _ => h59) (fun z => absurd rfl z) y2))
        refine Or.inr ⟨zBl g n p', by omega, ?_, Or.inr ⟨h3, hv, hno.1, hno.2.symm⟩⟩
        rw [iPart, e1, iEnd_11 ht]
        exact iExp_n hn b1 h59
    · have hno := zNo_run hn b3
      have h0 : 0 ≤ (iE t (iAdv I)) 11 8 := by rw [b1]; exact Int32.not_lt.mp (nI_pos (by omega))
      refine Or.inr ⟨f, b2, ?_, Or.inr ⟨h3, hv, hno.1, hno.2.symm⟩⟩
      rw [iPart, e1, iEnd_11 ht, iExp_f h0]
      exact b1
  · have hf := iExp_n hn h hc
    have h0 : 0 ≤ (iExp (128 + nI k) I) 11 8 := by rw [hf]; exact Int32.not_lt.mp (nI_pos (by omega))
    have h1 := hE.2 _ h0
    have h1b : 0 ≤ (iE t (iExp (128 + nI k) I)) 11 8 := by rw [h1]; exact h0
    refine Or.inr ⟨zBl g n p, by omega, ?_, Or.inl ⟨fun z => hc ?_, rfl⟩⟩
    · rw [iPart, iEnd_11 ht, iExp_f h1b, h1, hf]
    · have hr : zc g n p = -1 ∨ zc g n p = 0 ∨ zc g n p = 1 ∨ zc g n p = 40 ∨ zc g n p = 41 ∨ zc g n p = 59 ∨ zc g n p = 43 ∨ zc g n p = 45 ∨ zc g n p = 42 ∨ zc g n p = 60 ∨ zc g n p = 61 ∨ zc g n p = 128 ∨ zc g n p = 129 ∨ zc g n p = 130 ∨ zc g n p = 131 ∨ zc g n p = 132 ∨ zc g n p = 133 ∨ zc g n p = 134 ∨ zc g n p = 135 ∨ zc g n p = 136 ∨ zc g n p = 137 ∨ zc g n p = 138 ∨ zc g n p = 139 := vTk_rng g n (zBl g n p)
      have h3 := (tkOf_3 hr).1 (htk.symm.trans z.1)
      have hv := hlx.2.1.1
      have hz2 := z.2
      have hd : zc g n p = vTk g n (zBl g n p) := rfl
      rw [← hd] at hv
      rcases h3 with e | e | e <;> rw [e] at hv ⊢ <;> rw [hv (by decide) (by decide)] at hz2 <;> rw [← hz2] <;> decide
