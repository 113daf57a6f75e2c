theorem zS_self (r : Nat → Int32) : zS r (r 18) (r 19) (r 20) (r 21) (r 24) (r 25) (r 26) = r := by
  funext k
  simp only [zS, xup]
  grind
def KP (tc : Nat) (I J : xI) : Prop := (∀ a, a ≠ 59 → a ≠ 64 → a ≠ 65 → J a = I a) ∧ (∀ j, j < 200 * tc → J 64 j = I 64 j) ∧ (∀ j, j < 4 * tc → J 65 j = I 65 j) ∧ J 59 5 = 0 ∧ ∀ k, k < 18 → k ≠ 5 → k ≠ 8 → J 59 k = I 59 k
def KB (tc : Nat) (I B : xI) : Prop := (∀ a, a ≠ 65 → B a = I a) ∧ ∀ j, j < 4 * tc → B 65 j = I 65 j
theorem KB_r (tc : Nat) (I : xI) : KB tc I I := ⟨fun _ _ => rfl, fun _ _ => rfl⟩
theorem KB_w {tc : Nat} {I B : xI} (h : KB tc I B) (i : Nat) (v : Int32) : KB tc I (xw B 65 (4 * tc + i) v) := by
  refine ⟨fun a ha => (xw_row _ _ _ ha).trans (h.1 a ha), fun j hj => ?_⟩
  rw [xw_is, xup_s, xup_n _ _ (by omega)]
  exact h.2 j hj
theorem KP_of {tc : Nat} {I B B0 : xI} (hB : KB tc I B) (h0 : KB tc I B0) (cs : List Int32) (r : Nat → Int32) (hr : ∀ k, k < 18 → k ≠ 5 → k ≠ 8 → r k = I 59 k) (h5 : r 5 = 0) (a b t v h o u : Int32) : KP tc I (xup (xup B 64 (zC (200 * tc) cs (B0 64))) 59 (zS r a b t v h o u)) := by
  refine ⟨fun x h1 h2 h3 => ?_, fun j hj => ?_, fun j hj => ?_, ?_, fun k h1 h2 h3 => ?_⟩
  · rw [xup_n _ _ h1, xup_n _ _ h2]; exact hB.1 x h3
  · rw [xup_n _ _ (show (64 : Nat) ≠ 59 by decide), xup_s, zC, if_neg (by omega), h0.1 64 (by decide)]
  · rw [xup_n _ _ (show (65 : Nat) ≠ 59 by decide), xup_n _ _ (show (65 : Nat) ≠ 64 by decide)]; exact hB.2 j hj
  · rw [xup_s, zS_o _ _ _ _ _ _ _ _ (by decide)]; exact h5
  · rw [xup_s, zS_o _ _ _ _ _ _ _ _ h1]; exact hr k h1 h2 h3
theorem KP_bad {tc : Nat} {I B B0 : xI} (hB : KB tc I B) (h0 : KB tc I B0) (cs : List Int32) (a b t v h o u : Int32) : KP tc I (xup (xup B 64 (zC (200 * tc) cs (B0 64))) 59 (zS (xup (B0 59) 5 0) a b t v h o u)) ∧ (xup (xup B 64 (zC (200 * tc) cs (B0 64))) 59 (zS (xup (B0 59) 5 0) a b t v h o u)) 59 8 = I 59 8 := by
  refine ⟨KP_of hB h0 cs _ (fun k h1 h2 h3 => ?_) (xup_s _ _ _) a b t v h o u, ?_⟩
  · rw [xup_n _ _ h2, h0.1 59 (by decide)]
  · rw [xup_s, zS_o _ _ _ _ _ _ _ _ (by decide), xup_n _ _ (by decide), h0.1 59 (by decide)]
def zGd (wd g : Nat → Int32) (n : Nat) (k : Int32) (p : Nat) (cs : List Int32) (p' : Nat) (cs' : List Int32) : Prop := zTk wd g n (zBl g n p) = 3 ∧ zVa wd g n (zBl g n p) = k ∧ (zE wd g n (vNx g n (zBl g n p)) cs).1 = true ∧ p' = vNx g n (zBl g n (zE wd g n (vNx g n (zBl g n p)) cs).2.1) ∧ cs' = (zE wd g n (vNx g n (zBl g n p)) cs).2.2.2.2
def zBd (wd g : Nat → Int32) (n : Nat) (k : Int32) (p : Nat) (cs : List Int32) (q : Nat) : Prop := (¬ (zTk wd g n (zBl g n p) = 3 ∧ zVa wd g n (zBl g n p) = k) ∧ q = zBl g n p) ∨ (zTk wd g n (zBl g n p) = 3 ∧ zVa wd g n (zBl g n p) = k ∧ (zE wd g n (vNx g n (zBl g n p)) cs).1 = false ∧ q = zBl g n (zE wd g n (vNx g n (zBl g n p)) cs).2.1)
def zTBad (wd g : Nat → Int32) (n q : Nat) : Prop := zBd wd g n 0 0 [] q ∨ ∃ p1 c1, zGd wd g n 0 0 [] p1 c1 ∧ (zBd wd g n 1 p1 c1 q ∨ ∃ p2 c2, zGd wd g n 1 p1 c1 p2 c2 ∧ (zBd wd g n 2 p2 c2 q ∨ ∃ p3 c3, zGd wd g n 2 p2 c2 p3 c3 ∧ ¬ zTk wd g n (zBl g n p3) = 0 ∧ q = zBl g n p3))
theorem zStp_t {tk va : Int32} {K : List Int32} {o : Int32} {cs : List Int32} {w y : Bool} {K1 : List Int32} {o1 : Int32} {c1 : List Int32} (h : zStp tk va K o cs w y = .inl (true, K1, o1, c1)) : tk = 59 := by
  unfold zStp at h
  by_cases h59 : tk = 59
  · exact h59
  · exfalso
    rw [if_neg h59] at h
    by_cases hw : w = true
    · rw [if_pos hw] at h
      split at h
      · cases h
      · split at h
        · split at h <;> cases h
        · split at h
          · split at h <;> cases h
          · split at h
            · split at h <;> cases h
            · cases h
    · rw [if_neg hw] at h
      split at h
      · split at h <;> cases h
      · split at h
        · cases h
        · split at h <;> cases h
theorem zRun_tk (wd g : Nat → Int32) (n : Nat) : ∀ (f p : Nat) (K : List Int32) (o : Int32) (cs : List Int32) (w y : Bool), (zRun wd g n f p K o cs w y).1 = true → zTk wd g n (zBl g n (zRun wd g n f p K o cs w y).2.1) = 59
  | 0, _, _, _, _, _, _, h => absurd (show false = true from h) (by decide)
  | f + 1, p, K, o, cs, w, y, h => by
    cases hs : zStp (zTk wd g n (zBl g n p)) (zVa wd g n (zBl g n p)) K o cs w y with
    | inl r =>
      obtain ⟨b, K1, o1, c1⟩ := r
      rw [zRun_i hs] at h ⊢
      have hb : b = true := h
      rw [hb] at hs
      exact zStp_t hs
    | inr s =>
      obtain ⟨K1, o1, c1, w1, y1⟩ := s
      rw [zRun_r hs] at h ⊢
      exact zRun_tk wd g n f _ _ _ _ _ _ h
theorem zGd_b {wd g : Nat → Int32} {n : Nat} (hn : n ≤ 160) (hB : ∀ j, j < n → ¬ g j < 0) {k : Int32} {p : Nat} {cs : List Int32} {p' : Nat} {cs' : List Int32} (h : zGd wd g n k p cs p' cs') (hp : p ≤ n) (hl : cs.length ≤ p) : p' ≤ n ∧ cs'.length ≤ p' := by
  obtain ⟨h1, h2, h3, rfl, rfl⟩ := h
  have hbl := zBl_b g hp
  have hqn : zBl g n p < n := Nat.lt_of_not_le (fun z => by have e0 := zTk_0 (wd := wd) (g := g) z; rw [h1] at e0; exact absurd e0 (by decide))
  have hx := vNx_b hB hn hqn
  have hr := zRun_len wd g n hn hB 161 (vNx g n (zBl g n p)) [] 0 cs true true (by simp; omega) hx.2
  have ht := zRun_tk wd g n 161 (vNx g n (zBl g n p)) [] 0 cs true true h3
  unfold zE
  have hb2 := zBl_b g hr.2.2
  have hq2 : zBl g n (zRun wd g n 161 (vNx g n (zBl g n p)) [] 0 cs true true).2.1 < n := Nat.lt_of_not_le (fun z => by have e0 := zTk_0 (wd := wd) (g := g) z; rw [ht] at e0; exact absurd e0 (by decide))
  have hx2 := vNx_b hB hn hq2
  omega
theorem text_in (l : Launch) (G : xG) {d : Nat} (nn : Nat) (hd : 5 ≤ d) (I : xI) (tc : Nat) (h8 : I 59 8 = nI tc) (htc : tc < 6) (n : Nat) (h5 : I 59 5 = nI n) (hn : n ≤ 160) (hB : ∀ j, j < n → ¬ I 63 j < 0) (ans : Int32) (J' : xI) (h : Qt l G d nn I tc 0 0 [] (I 59 19) (I 59 20) (I 59 21) (I 59 24) (I 59 25) ans J') : XM l G d y_Model_text b_Model_text 3 (some .int) 0 0 xK0 [.ref (xg G 59)] nn (xm G xYf I) (some (.int ans)) nn (xm G xYf J') := by
  unfold Qt at h
  refine XM.of (by decide) (Nat.le_of_ble_eq_true rfl) (L := [(0, .ref (xg G 59))]) rfl ?_
  have e0 : (xm G xYf I) = xm G xYf (xup (xup I 64 (zC (200 * tc) [] (I 64))) 59 (zS (I 59) (I 59 18) (I 59 19) (I 59 20) (I 59 21) (I 59 24) (I 59 25) (I 59 26))) := by
    rw [zS_self, zC_nil, xup_self]
    congr 1
    exact (xup_self I 59).symm
  rw [e0]
  refine X_aload_n d_Model_text_0 rfl rfl ?_
  refine X_getI (v := nI tc) fg_Model_70 (show xYf 59 = some sModel from rfl) rfl ((congrFun (xup_s _ _ _) _).trans ((zS_o _ _ _ _ _ _ _ _ (by decide)).trans (h8))) d_Model_text_1 ?_
  refine X_bipush (v := 6) d_Model_text_4 rfl ?_
  refine X_icmp_ne (tgt := 12) d_Model_text_6 (by decide) (fun _ => ?_) (fun c_1 => absurd c_1 (fun z => absurd ((nI_eq (a := tc) (b := 6) (by omega) (by decide)).mp z) (by omega)))
  refine X_aload_n d_Model_text_12 rfl rfl ?_
  refine X_iconst (v := 0) d_Model_text_13 rfl ?_
  refine X_putI fp_Model_80 (show xYf 59 = some sModel from rfl) rfl d_Model_text_14 ?_
  rw [xw_rec]
  rw [zSs_18]
  refine X_aload_n d_Model_text_17 rfl rfl ?_
  refine X_iconst (v := 0) d_Model_text_18 rfl ?_
  refine X_putI fp_Model_96 (show xYf 59 = some sModel from rfl) rfl d_Model_text_19 ?_
  rw [xw_rec]
  rw [zSs_26]
  refine X_iconst (v := 1) d_Model_text_22 rfl ?_
  refine X_istore_n d_Model_text_23 rfl (by decide) [1, 0] (L' := [(0, .ref (xg G 59)), (1, .int 1)]) rfl ?_
  refine X_iconst (v := 0) d_Model_text_24 rfl ?_
  refine X_istore_n d_Model_text_25 rfl (by decide) [1, 2, 0] (L' := [(0, .ref (xg G 59)), (1, .int 1), (2, .int 0)]) rfl ?_
  exact h
theorem text_full (l : Launch) (G : xG) {d : Nat} (nn : Nat) (hd : 5 ≤ d) (I : xI) (h8 : I 59 8 = nI 6) : XM l G d y_Model_text b_Model_text 3 (some .int) 0 0 xK0 [.ref (xg G 59)] nn (xm G xYf I) (some (.int (-4))) nn (xm G xYf I) := by
  refine XM.of (by decide) (Nat.le_of_ble_eq_true rfl) (L := [(0, .ref (xg G 59))]) rfl ?_
  refine X_aload_n d_Model_text_0 rfl rfl ?_
  refine X_getI (v := nI 6) fg_Model_70 (show xYf 59 = some sModel from rfl) rfl (h8) d_Model_text_1 ?_
  refine X_bipush (v := 6) d_Model_text_4 rfl ?_
  refine X_icmp_ne (tgt := 12) d_Model_text_6 (by decide) (fun c_1 => absurd c_1 (fun z => z (by rfl))) (fun _ => ?_)
  refine X_bipush (v := -4) d_Model_text_9 rfl ?_
  exact X_iret rfl rfl (xle_rf _) d_Model_text_11
theorem st_bad (l : Launch) (G : xG) {d : Nat} (nn : Nat) (hd : 5 ≤ d) (I : xI) (tc : Nat) (h8 : I 59 8 = nI tc) (htc : tc < 6) (n : Nat) (h5 : I 59 5 = nI n) (hn : n ≤ 160) (hB : ∀ j, j < n → ¬ I 63 j < 0) (B : xI) (hKB : KB tc I B) (k : Int32) (hk : k = 0 ∨ k = 1 ∨ k = 2) (p : Nat) (hp : p ≤ n) (cs : List Int32) (hl : cs.length ≤ p) (q : Nat) (hb : zBd (I 71) (I 63) n k p cs q) (b t v hm o : Int32) : ∃ J', Qt l G d nn B tc k p cs b t v hm o (-100 - nI q) J' ∧ KP tc I J' ∧ J' 59 8 = I 59 8 := by
  have e59 := hKB.1 59 (by decide)
  have e63 := hKB.1 63 (by decide)
  have e71 := hKB.1 71 (by decide)
  have g8 : B 59 8 = nI tc := by rw [e59]; exact h8
  have g5 : B 59 5 = nI n := by rw [e59]; exact h5
  have gB : ∀ j, j < n → ¬ B 63 j < 0 := by rw [e63]; exact hB
  rw [← e63, ← e71] at hb
  rcases hk with rfl | rfl | rfl
  ·
    rcases hb with ⟨h1, rfl⟩ | ⟨h1, h2, h3, rfl⟩
    · by_cases h3 : zTk (B 71) (B 63) n (zBl (B 63) n p) = 3
      · exact ⟨_, t_T2_0 l G nn hd B tc g8 htc n g5 hn gB p hp cs hl b t v hm o _ h3 rfl (fun z => h1 ⟨h3, z⟩), KP_bad (KB_w (KB_w hKB _ _) 3 _) hKB _ _ _ _ _ _ _ _⟩
      · exact ⟨_, t_T1_0 l G nn hd B tc g8 htc n g5 hn gB p hp cs hl b t v hm o _ _ rfl rfl h3, KP_bad (KB_w (KB_w hKB _ _) 3 _) hKB _ _ _ _ _ _ _ _⟩
    · exact ⟨_, t_E_0 l G nn hd B tc g8 htc n g5 hn gB p hp cs hl b t v hm o h1 h2 _ rfl h3, KP_bad (KB_w (KB_w hKB _ _) 3 _) hKB _ _ _ _ _ _ _ _⟩
  ·
    rcases hb with ⟨h1, rfl⟩ | ⟨h1, h2, h3, rfl⟩
    · by_cases h3 : zTk (B 71) (B 63) n (zBl (B 63) n p) = 3
      · exact ⟨_, t_T2_1 l G nn hd B tc g8 htc n g5 hn gB p hp cs hl b t v hm o _ h3 rfl (fun z => h1 ⟨h3, z⟩), KP_bad (KB_w (KB_w hKB _ _) 3 _) hKB _ _ _ _ _ _ _ _⟩
      · exact ⟨_, t_T1_1 l G nn hd B tc g8 htc n g5 hn gB p hp cs hl b t v hm o _ _ rfl rfl h3, KP_bad (KB_w (KB_w hKB _ _) 3 _) hKB _ _ _ _ _ _ _ _⟩
    · exact ⟨_, t_E_1 l G nn hd B tc g8 htc n g5 hn gB p hp cs hl b t v hm o h1 h2 _ rfl h3, KP_bad (KB_w (KB_w hKB _ _) 3 _) hKB _ _ _ _ _ _ _ _⟩
  ·
    rcases hb with ⟨h1, rfl⟩ | ⟨h1, h2, h3, rfl⟩
    · by_cases h3 : zTk (B 71) (B 63) n (zBl (B 63) n p) = 3
      · exact ⟨_, t_T2_2 l G nn hd B tc g8 htc n g5 hn gB p hp cs hl b t v hm o _ h3 rfl (fun z => h1 ⟨h3, z⟩), KP_bad (KB_w (KB_w hKB _ _) 3 _) hKB _ _ _ _ _ _ _ _⟩
      · exact ⟨_, t_T1_2 l G nn hd B tc g8 htc n g5 hn gB p hp cs hl b t v hm o _ _ rfl rfl h3, KP_bad (KB_w (KB_w hKB _ _) 3 _) hKB _ _ _ _ _ _ _ _⟩
    · exact ⟨_, t_E_2 l G nn hd B tc g8 htc n g5 hn gB p hp cs hl b t v hm o h1 h2 _ rfl h3, KP_bad (KB_w (KB_w hKB _ _) 3 _) hKB _ _ _ _ _ _ _ _⟩
theorem st_good_0 (l : Launch) (G : xG) {d : Nat} (nn : Nat) (hd : 5 ≤ d) (I : xI) (tc : Nat) (h8 : I 59 8 = nI tc) (htc : tc < 6) (n : Nat) (h5 : I 59 5 = nI n) (hn : n ≤ 160) (hB : ∀ j, j < n → ¬ I 63 j < 0) (B : xI) (hKB : KB tc I B) (p : Nat) (hp : p ≤ n) (cs : List Int32) (hl : cs.length ≤ p) (p' : Nat) (cs' : List Int32) (hg : zGd (I 71) (I 63) n 0 p cs p' cs') (b t v hm o ans : Int32) (X : xI → Prop) (ih : ∀ b t v hm o, ∃ J', Qt l G d nn (xw B 65 (4 * tc + 0) (nI cs.length)) tc 1 p' cs' b t v hm o ans J' ∧ X J') : ∃ J', Qt l G d nn B tc 0 p cs b t v hm o ans J' ∧ X J' := by
  have e59 := hKB.1 59 (by decide)
  have e63 := hKB.1 63 (by decide)
  have e71 := hKB.1 71 (by decide)
  rw [← e63, ← e71] at hg
  obtain ⟨h1, h2, h3, rfl, rfl⟩ := hg
  obtain ⟨J', hx, hX⟩ := ih _ _ _ _ _
  exact ⟨J', t_G_0 l G nn hd B tc (by rw [e59]; exact h8) htc n (by rw [e59]; exact h5) hn (by rw [e63]; exact hB) p hp cs hl b t v hm o h1 h2 _ rfl h3 ans J' hx, hX⟩
theorem st_good_1 (l : Launch) (G : xG) {d : Nat} (nn : Nat) (hd : 5 ≤ d) (I : xI) (tc : Nat) (h8 : I 59 8 = nI tc) (htc : tc < 6) (n : Nat) (h5 : I 59 5 = nI n) (hn : n ≤ 160) (hB : ∀ j, j < n → ¬ I 63 j < 0) (B : xI) (hKB : KB tc I B) (p : Nat) (hp : p ≤ n) (cs : List Int32) (hl : cs.length ≤ p) (p' : Nat) (cs' : List Int32) (hg : zGd (I 71) (I 63) n 1 p cs p' cs') (b t v hm o ans : Int32) (X : xI → Prop) (ih : ∀ b t v hm o, ∃ J', Qt l G d nn (xw B 65 (4 * tc + 1) (nI cs.length)) tc 2 p' cs' b t v hm o ans J' ∧ X J') : ∃ J', Qt l G d nn B tc 1 p cs b t v hm o ans J' ∧ X J' := by
  have e59 := hKB.1 59 (by decide)
  have e63 := hKB.1 63 (by decide)
  have e71 := hKB.1 71 (by decide)
  rw [← e63, ← e71] at hg
  obtain ⟨h1, h2, h3, rfl, rfl⟩ := hg
  obtain ⟨J', hx, hX⟩ := ih _ _ _ _ _
  exact ⟨J', t_G_1 l G nn hd B tc (by rw [e59]; exact h8) htc n (by rw [e59]; exact h5) hn (by rw [e63]; exact hB) p hp cs hl b t v hm o h1 h2 _ rfl h3 ans J' hx, hX⟩
theorem st_good_2 (l : Launch) (G : xG) {d : Nat} (nn : Nat) (hd : 5 ≤ d) (I : xI) (tc : Nat) (h8 : I 59 8 = nI tc) (htc : tc < 6) (n : Nat) (h5 : I 59 5 = nI n) (hn : n ≤ 160) (hB : ∀ j, j < n → ¬ I 63 j < 0) (B : xI) (hKB : KB tc I B) (p : Nat) (hp : p ≤ n) (cs : List Int32) (hl : cs.length ≤ p) (p' : Nat) (cs' : List Int32) (hg : zGd (I 71) (I 63) n 2 p cs p' cs') (b t v hm o ans : Int32) (X : xI → Prop) (ih : ∀ b t v hm o, ∃ J', Qt l G d nn (xw B 65 (4 * tc + 2) (nI cs.length)) tc 3 p' cs' b t v hm o ans J' ∧ X J') : ∃ J', Qt l G d nn B tc 2 p cs b t v hm o ans J' ∧ X J' := by
  have e59 := hKB.1 59 (by decide)
  have e63 := hKB.1 63 (by decide)
  have e71 := hKB.1 71 (by decide)
  rw [← e63, ← e71] at hg
  obtain ⟨h1, h2, h3, rfl, rfl⟩ := hg
  obtain ⟨J', hx, hX⟩ := ih _ _ _ _ _
  exact ⟨J', t_G_2 l G nn hd B tc (by rw [e59]; exact h8) htc n (by rw [e59]; exact h5) hn (by rw [e63]; exact hB) p hp cs hl b t v hm o h1 h2 _ rfl h3 ans J' hx, hX⟩
theorem Model_text_bad (l : Launch) (G : xG) {d : Nat} (nn : Nat) (hd : 5 ≤ d) (I : xI) (tc : Nat) (h8 : I 59 8 = nI tc) (htc : tc < 6) (n : Nat) (h5 : I 59 5 = nI n) (hn : n ≤ 160) (hB : ∀ j, j < n → ¬ I 63 j < 0) (q : Nat) (h : zTBad (I 71) (I 63) n q) : ∃ J', XM l G d y_Model_text b_Model_text 3 (some .int) 0 0 xK0 [.ref (xg G 59)] nn (xm G xYf I) (some (.int (-100 - nI q))) nn (xm G xYf J') ∧ KP tc I J' ∧ J' 59 8 = I 59 8 := by
  have key : ∃ J', Qt l G d nn I tc 0 0 [] (I 59 19) (I 59 20) (I 59 21) (I 59 24) (I 59 25) (-100 - nI q) J' ∧ KP tc I J' ∧ J' 59 8 = I 59 8 := by
    rcases h with hb | ⟨p1, c1, hg, h⟩
    · exact st_bad l G nn hd I tc h8 htc n h5 hn hB I (KB_r tc I) 0 (Or.inl rfl) 0 (Nat.zero_le _) [] (Nat.le_refl _) q hb _ _ _ _ _
    · have b1 := zGd_b hn hB hg (Nat.zero_le _) (Nat.le_refl _)
      refine st_good_0 l G nn hd I tc h8 htc n h5 hn hB I (KB_r tc I) 0 (Nat.zero_le _) [] (Nat.le_refl _) p1 c1 hg _ _ _ _ _ _ (fun J => KP tc I J ∧ J 59 8 = I 59 8) (fun b t v hm o => ?_)
      have hk1 := KB_w (KB_r tc I) 0 (nI ([] : List Int32).length)
      rcases h with hb | ⟨p2, c2, hg2, h⟩
      · exact st_bad l G nn hd I tc h8 htc n h5 hn hB _ hk1 1 (Or.inr (Or.inl rfl)) p1 b1.1 c1 b1.2 q hb _ _ _ _ _
      · have b2 := zGd_b hn hB hg2 b1.1 b1.2
        refine st_good_1 l G nn hd I tc h8 htc n h5 hn hB _ hk1 p1 b1.1 c1 b1.2 p2 c2 hg2 _ _ _ _ _ _ (fun J => KP tc I J ∧ J 59 8 = I 59 8) (fun b t v hm o => ?_)
        have hk2 := KB_w hk1 1 (nI c1.length)
        rcases h with hb | ⟨p3, c3, hg3, h0, rfl⟩
        · exact st_bad l G nn hd I tc h8 htc n h5 hn hB _ hk2 2 (Or.inr (Or.inr rfl)) p2 b2.1 c2 b2.2 q hb _ _ _ _ _
        · have b3 := zGd_b hn hB hg3 b2.1 b2.2
          refine st_good_2 l G nn hd I tc h8 htc n h5 hn hB _ hk2 p2 b2.1 c2 b2.2 p3 c3 hg3 _ _ _ _ _ _ (fun J => KP tc I J ∧ J 59 8 = I 59 8) (fun b t v hm o => ?_)
          have hk3 := KB_w hk2 2 (nI c2.length)
          generalize xw (xw (xw I 65 (4 * tc + 0) (nI ([] : List Int32).length)) 65 (4 * tc + 1) (nI c1.length)) 65 (4 * tc + 2) (nI c2.length) = B at hk3 ⊢
          have e59 := hk3.1 59 (by decide)
          have e63 := hk3.1 63 (by decide)
          have e71 := hk3.1 71 (by decide)
          rw [← e63, ← e71] at h0
          rw [← e63]
          exact ⟨_, t_F l G nn hd B tc (by rw [e59]; exact h8) htc n (by rw [e59]; exact h5) hn (by rw [e63]; exact hB) p3 b3.1 c3 b3.2 b t v hm o _ _ rfl rfl h0, KP_bad (KB_w hk3 3 _) hk3 _ _ _ _ _ _ _ _⟩
  obtain ⟨J', hx, hk⟩ := key
  exact ⟨J', text_in l G nn hd I tc h8 htc n h5 hn hB _ _ hx, hk⟩
theorem Model_text_ok (l : Launch) (G : xG) {d : Nat} (nn : Nat) (hd : 5 ≤ d) (I : xI) (tc : Nat) (h8 : I 59 8 = nI tc) (htc : tc < 6) (n : Nat) (h5 : I 59 5 = nI n) (hn : n ≤ 160) (hB : ∀ j, j < n → ¬ I 63 j < 0) (p1 p2 p3 : Nat) (c1 c2 c3 : List Int32) (hg : zGd (I 71) (I 63) n 0 0 [] p1 c1) (hg2 : zGd (I 71) (I 63) n 1 p1 c1 p2 c2) (hg3 : zGd (I 71) (I 63) n 2 p2 c2 p3 c3) (h0 : zTk (I 71) (I 63) n (zBl (I 63) n p3) = 0) : ∃ J', XM l G d y_Model_text b_Model_text 3 (some .int) 0 0 xK0 [.ref (xg G 59)] nn (xm G xYf I) (some (.int (nI tc))) nn (xm G xYf J') ∧ KP tc I J' ∧ J' 59 8 = nI (tc + 1) ∧ J' 64 = zC (200 * tc) c3 (I 64) ∧ J' 65 (4 * tc) = nI 0 ∧ J' 65 (4 * tc + 1) = nI c1.length ∧ J' 65 (4 * tc + 2) = nI c2.length ∧ J' 65 (4 * tc + 3) = nI c3.length := by
  have b1 := zGd_b hn hB hg (Nat.zero_le _) (Nat.le_refl _)
  have b2 := zGd_b hn hB hg2 b1.1 b1.2
  have b3 := zGd_b hn hB hg3 b2.1 b2.2
  have hk1 := KB_w (KB_r tc I) 0 (nI ([] : List Int32).length)
  have hk2 := KB_w hk1 1 (nI c1.length)
  have hk3 := KB_w hk2 2 (nI c2.length)
  have key : ∃ J', Qt l G d nn I tc 0 0 [] (I 59 19) (I 59 20) (I 59 21) (I 59 24) (I 59 25) (nI tc) J' ∧ KP tc I J' ∧ J' 59 8 = nI (tc + 1) ∧ J' 64 = zC (200 * tc) c3 (I 64) ∧ J' 65 (4 * tc) = nI 0 ∧ J' 65 (4 * tc + 1) = nI c1.length ∧ J' 65 (4 * tc + 2) = nI c2.length ∧ J' 65 (4 * tc + 3) = nI c3.length := by
    refine st_good_0 l G nn hd I tc h8 htc n h5 hn hB I (KB_r tc I) 0 (Nat.zero_le _) [] (Nat.le_refl _) p1 c1 hg _ _ _ _ _ _ (fun J => KP tc I J ∧ J 59 8 = nI (tc + 1) ∧ J 64 = zC (200 * tc) c3 (I 64) ∧ J 65 (4 * tc) = nI 0 ∧ J 65 (4 * tc + 1) = nI c1.length ∧ J 65 (4 * tc + 2) = nI c2.length ∧ J 65 (4 * tc + 3) = nI c3.length) (fun b t v hm o => ?_)
    refine st_good_1 l G nn hd I tc h8 htc n h5 hn hB _ hk1 p1 b1.1 c1 b1.2 p2 c2 hg2 _ _ _ _ _ _ (fun J => KP tc I J ∧ J 59 8 = nI (tc + 1) ∧ J 64 = zC (200 * tc) c3 (I 64) ∧ J 65 (4 * tc) = nI 0 ∧ J 65 (4 * tc + 1) = nI c1.length ∧ J 65 (4 * tc + 2) = nI c2.length ∧ J 65 (4 * tc + 3) = nI c3.length) (fun b t v hm o => ?_)
    refine st_good_2 l G nn hd I tc h8 htc n h5 hn hB _ hk2 p2 b2.1 c2 b2.2 p3 c3 hg3 _ _ _ _ _ _ (fun J => KP tc I J ∧ J 59 8 = nI (tc + 1) ∧ J 64 = zC (200 * tc) c3 (I 64) ∧ J 65 (4 * tc) = nI 0 ∧ J 65 (4 * tc + 1) = nI c1.length ∧ J 65 (4 * tc + 2) = nI c2.length ∧ J 65 (4 * tc + 3) = nI c3.length) (fun b t v hm o => ?_)
    have q0 : xw (xw (xw I 65 (4 * tc + 0) (nI ([] : List Int32).length)) 65 (4 * tc + 1) (nI c1.length)) 65 (4 * tc + 2) (nI c2.length) 65 (4 * tc) = nI 0 := (xw_k _ _ _ (by omega)).trans ((xw_k _ _ _ (by omega)).trans (xw_s _ _ _ _))
    have q1 : xw (xw (xw I 65 (4 * tc + 0) (nI ([] : List Int32).length)) 65 (4 * tc + 1) (nI c1.length)) 65 (4 * tc + 2) (nI c2.length) 65 (4 * tc + 1) = nI c1.length := (xw_k _ _ _ (by omega)).trans (xw_s _ _ _ _)
    have q2 : xw (xw (xw I 65 (4 * tc + 0) (nI ([] : List Int32).length)) 65 (4 * tc + 1) (nI c1.length)) 65 (4 * tc + 2) (nI c2.length) 65 (4 * tc + 2) = nI c2.length := xw_s _ _ _ _
    generalize xw (xw (xw I 65 (4 * tc + 0) (nI ([] : List Int32).length)) 65 (4 * tc + 1) (nI c1.length)) 65 (4 * tc + 2) (nI c2.length) = B at hk3 q0 q1 q2 ⊢
    have e59 := hk3.1 59 (by decide)
    have e63 := hk3.1 63 (by decide)
    have e64 := hk3.1 64 (by decide)
    have e71 := hk3.1 71 (by decide)
    have h01 := h0
    rw [← e63, ← e71] at h01
    have hx := t_S l G nn hd B tc (by rw [e59]; exact h8) htc n (by rw [e59]; exact h5) hn (by rw [e63]; exact hB) p3 b3.1 c3 b3.2 b t v hm o _ h01 rfl
    rw [show (nI tc) + 1 - 1 = nI tc from by rw [nI_1, nI_pred]] at hx
    refine ⟨_, hx, KP_of (KB_w hk3 3 _) hk3 _ _ (fun k h1 h2 h3 => ?_) ?_ _ _ _ _ _ _ _, ?_, ?_, ?_, ?_, ?_, ?_⟩
    · rw [xup_n _ _ h3, xup_n _ _ h2, e59]
    · rw [xup_n _ _ (by decide), xup_s]
    · rw [xup_s, zS_o _ _ _ _ _ _ _ _ (by decide), xup_s, nI_1]
    · rw [xup_n _ _ (show (64 : Nat) ≠ 59 by decide), xup_s, e64]
    · rw [xup_n _ _ (show (65 : Nat) ≠ 59 by decide), xup_n _ _ (show (65 : Nat) ≠ 64 by decide), xw_is, xup_s, xup_n _ _ (by omega)]; exact q0
    · rw [xup_n _ _ (show (65 : Nat) ≠ 59 by decide), xup_n _ _ (show (65 : Nat) ≠ 64 by decide), xw_is, xup_s, xup_n _ _ (by omega)]; exact q1
    · rw [xup_n _ _ (show (65 : Nat) ≠ 59 by decide), xup_n _ _ (show (65 : Nat) ≠ 64 by decide), xw_is, xup_s, xup_n _ _ (by omega)]; exact q2
    · rw [xup_n _ _ (show (65 : Nat) ≠ 59 by decide), xup_n _ _ (show (65 : Nat) ≠ 64 by decide), xw_is, xup_s, xup_s]
  obtain ⟨J', hx, hk⟩ := key
  exact ⟨J', text_in l G nn hd I tc h8 htc n h5 hn hB _ _ hx, hk⟩
