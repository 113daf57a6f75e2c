theorem k_Head_standAtStart (l : Launch) (G : xG) {d : Nat} (nn : Nat) (Y : xY) (I : xI) (hd : 1 ≤ d) (h : Nat) (hh : Y h = some sHead) (f : Nat → Int32) (hf : I h = f) : XM l G d y_Head_standAtStart b_Head_standAtStart 1 (none) 0 0 xK0 [.ref (xg G h)] nn (xm G Y I) (none) nn (xm G Y (xup I h (hStd f))) := by
  subst hf
  exact c_Head_standAtStart l G nn Y I hd h hh
theorem k_Head_begin (l : Launch) (G : xG) {d : Nat} (nn : Nat) (Y : xY) (I : xI) (hd : 2 ≤ d) (h : Nat) (hh : Y h = some sHead) (k m : Int32) (f : Nat → Int32) (hf : I h = f) : XM l G d y_Head_begin b_Head_begin 3 (none) 0 0 xK0 [.ref (xg G h), .int k, .int m] nn (xm G Y I) (none) nn (xm G Y (xup I h (hBegin k m f))) := by
  subst hf
  exact c_Head_begin l G nn Y I hd h hh k m
theorem k_Head_fallsFrom (l : Launch) (G : xG) {d : Nat} (nn : Nat) (Y : xY) (I : xI) (hd : 2 ≤ d) (h : Nat) (hh : Y h = some sHead) (f : Nat → Int32) (hf : I h = f) : XM l G d y_Head_fallsFrom b_Head_fallsFrom 1 (some .int) 0 0 xK0 [.ref (xg G h)] nn (xm G Y I) (some (.int (kFalls (f 0) (f 1)))) nn (xm G Y (I)) := by
  subst hf
  exact c_Head_fallsFrom l G nn Y I hd h hh
theorem k_Head_mustFall (l : Launch) (G : xG) {d : Nat} (nn : Nat) (Y : xY) (I : xI) (hd : 3 ≤ d) (h : Nat) (hh : Y h = some sHead) (f : Nat → Int32) (hf : I h = f) : XM l G d y_Head_mustFall b_Head_mustFall 1 (some .boolean) 0 0 xK0 [.ref (xg G h)] nn (xm G Y I) (some (.int (xb (hMust f)))) nn (xm G Y (I)) := by
  subst hf
  exact c_Head_mustFall l G nn Y I hd h hh
theorem k_Head_fade (l : Launch) (G : xG) {d : Nat} (nn : Nat) (Y : xY) (I : xI) (hd : 6 ≤ d) (h : Nat) (hh : Y h = some sHead) (t : Nat) (S : xSay) (hT : xTx Y I t S) (eyes : Int32) (f : Nat → Int32) (hf : I h = f) : XM l G d y_Head_fade b_Head_fade 4 (none) 0 0 xK0 [.ref (xg G h), .ref (xg G t), .int eyes] nn (xm G Y I) (none) nn (xm G Y (xup I h (hFade S eyes f))) := by
  subst hf
  exact c_Head_fade l G nn Y I hd h hh t S hT eyes
theorem k_Head_spinOnce (l : Launch) (G : xG) {d : Nat} (nn : Nat) (Y : xY) (I : xI) (hd : 7 ≤ d) (h : Nat) (hh : Y h = some sHead) (t : Nat) (S : xSay) (hT : xTx Y I t S) (speed side : Int32) (f : Nat → Int32) (hf : I h = f) : XM l G d y_Head_spinOnce b_Head_spinOnce 5 (none) 0 0 xK0 [.ref (xg G h), .ref (xg G t), .int speed, .int side] nn (xm G Y I) (none) nn (xm G Y (xup I h (hSpin1 S speed side f))) := by
  subst hf
  exact c_Head_spinOnce l G nn Y I hd h hh t S hT speed side
theorem k_Head_spin (l : Launch) (G : xG) {d : Nat} (nn : Nat) (Y : xY) (I : xI) (hd : 8 ≤ d) (h : Nat) (hh : Y h = some sHead) (t : Nat) (S : xSay) (hT : xTx Y I t S) (n speed : Int32) (hn : ¬ xabs n < 0) (f : Nat → Int32) (hf : I h = f) : XM l G d y_Head_spin b_Head_spin 6 (none) 0 0 xK0 [.ref (xg G h), .ref (xg G t), .int n, .int speed] nn (xm G Y I) (none) nn (xm G Y (xup I h (hSpin S n speed f))) := by
  subst hf
  exact c_Head_spin l G nn Y I hd h hh t S hT n speed hn
theorem k_Head_linger (l : Launch) (G : xG) {d : Nat} (nn : Nat) (Y : xY) (I : xI) (hd : 7 ≤ d) (h : Nat) (hh : Y h = some sHead) (t : Nat) (S : xSay) (hT : xTx Y I t S) (seconds eyes : Int32) (hs : ¬ seconds < 0) (f : Nat → Int32) (hf : I h = f) : XM l G d y_Head_linger b_Head_linger 5 (none) 0 0 xK0 [.ref (xg G h), .ref (xg G t), .int seconds, .int eyes] nn (xm G Y I) (none) nn (xm G Y (xup I h (hLing S eyes seconds.toNatClampNeg f))) := by
  subst hf
  exact c_Head_linger l G nn Y I hd h hh t S hT seconds eyes hs
theorem k_Head_step (l : Launch) (G : xG) {d : Nat} (nn : Nat) (Y : xY) (I : xI) (hd : 7 ≤ d) (h : Nat) (hh : Y h = some sHead) (t : Nat) (S : xSay) (hT : xTx Y I t S) (pace eyes : Int32) (f : Nat → Int32) (hf : I h = f) : XM l G d y_Head_step b_Head_step 5 (none) 0 0 xK0 [.ref (xg G h), .ref (xg G t), .int pace, .int eyes] nn (xm G Y I) (none) nn (xm G Y (xup I h (hStep S pace eyes f))) := by
  subst hf
  exact c_Head_step l G nn Y I hd h hh t S hT pace eyes
theorem k_Head_goOn (l : Launch) (G : xG) {d : Nat} (nn : Nat) (Y : xY) (I : xI) (hd : 8 ≤ d) (h : Nat) (hh : Y h = some sHead) (t : Nat) (S : xSay) (hT : xTx Y I t S) (seconds pace eyes : Int32) (hs : ¬ seconds < 0) (f : Nat → Int32) (hf : I h = f) (h7 : f 7 = 0 ∨ f 7 = 1) : XM l G d y_Head_goOn b_Head_goOn 6 (some .int) 0 0 xK0 [.ref (xg G h), .ref (xg G t), .int seconds, .int pace, .int eyes] nn (xm G Y I) (some (.int (hFall S pace eyes seconds.toNatClampNeg 0 f))) nn (xm G Y (xup I h (hGo S pace eyes seconds.toNatClampNeg f))) := by
  subst hf
  exact c_Head_goOn l G nn Y I hd h hh t S hT seconds pace eyes hs h7
theorem k_Head_become (l : Launch) (G : xG) {d : Nat} (nn : Nat) (Y : xY) (I : xI) (hd : 1 ≤ d) (h : Nat) (hh : Y h = some sHead) (o : Nat) (ho : Y o = some sHead) (hne : o ≠ h) (f g : Nat → Int32) (hf : I h = f) (hfo : I o = g) (hg : hOK g) (hz : hZ f) : XM l G d y_Head_become b_Head_become 2 (none) 0 0 xK0 [.ref (xg G h), .ref (xg G o)] nn (xm G Y I) (none) nn (xm G Y (xup I h g)) := by
  subst hf; subst hfo
  exact (by
    have q := c_Head_become l G nn Y I hd h hh o ho hne hg.1
    rw [hBe_eq hz hg.2] at q
    exact q)
theorem k_X_think (l : Launch) (G : xG) {d : Nat} (nn : Nat) (Y : xY) (I : xI) (hd : 3 ≤ d) (hY : xYok Y) (h3 : Y 3 = some sHead) (o : Nat) (ho : Y o = some sHead) (hne : o ≠ 3) (f g : Nat → Int32) (hf : I 3 = f) (hfo : I o = g) (hg : hOK g) (hz : hZ f) : XM l G d y_X_think b_X_think 2 (none) 0 0 xK0 [.ref (xg G 0), .ref (xg G o)] nn (xm G Y I) (none) nn (xm G Y (xup I 3 (hStd g))) := by
  subst hf; subst hfo
  exact c_X_think l G nn Y I hd hY h3 o ho hne hg hz
theorem k_X_thinkTurned (l : Launch) (G : xG) {d : Nat} (nn : Nat) (Y : xY) (I : xI) (hd : 9 ≤ d) (hY : xYok Y) (h3 : Y 3 = some sHead) (o : Nat) (ho : Y o = some sHead) (hne : o ≠ 3) (t : Nat) (S : xSay) (hT : xTx Y I t S) (n speed : Int32) (hn : ¬ xabs n < 0) (f g : Nat → Int32) (hf : I 3 = f) (hfo : I o = g) (hg : hOK g) (hz : hZ f) : XM l G d y_X_thinkTurned b_X_thinkTurned 5 (none) 0 0 xK0 [.ref (xg G 0), .ref (xg G o), .ref (xg G t), .int n, .int speed] nn (xm G Y I) (none) nn (xm G Y (xup I 3 (hSpin S n speed (hStd g)))) := by
  subst hf; subst hfo
  exact c_X_thinkTurned l G nn Y I hd hY h3 o ho hne hg hz t S hT n speed hn
theorem xl_1_0 : xin 0 0 1 = true := rfl
theorem xl_1_1 : xin 1 0 1 = true := rfl
theorem xl_2_0 : xin 0 0 2 = true := rfl
theorem xl_2_1 : xin 1 0 2 = true := rfl
theorem xl_2_2 : xin 2 0 2 = true := rfl
theorem xl_3_0 : xin 0 0 3 = true := rfl
theorem xl_3_1 : xin 1 0 3 = true := rfl
theorem xl_3_2 : xin 2 0 3 = true := rfl
theorem xl_3_3 : xin 3 0 3 = true := rfl
theorem xTx_upA {Y : xY} {I : xI} {t a : Nat} {S : xSay} {f : Nat → Int32} (hT : xTx Y I t S) (h0 : t ≠ a) (h1 : t + 1 ≠ a) (h2 : t + 2 ≠ a) : xTx Y (xup I a f) t S := xTx_kept hT (xup_n _ _ h0) (xup_n _ _ h1) (xup_n _ _ h2)
theorem xup_abca (I : xI) {a b c : Nat} (r1 q s r2 : Nat → Int32) (h : b ≠ a) (h2 : c ≠ a) : xup (xup (xup (xup I a r1) b q) c s) a r2 = xup (xup (xup I a r2) b q) c s := by rw [xup_comm _ _ _ h2, xup_comm _ _ _ h, xup_up]
theorem xw_recab (I : xI) {a b c : Nat} (f g s : Nat → Int32) {k : Nat} {v : Int32} (h : b ≠ a) (h2 : c ≠ a) : xw (xup (xup (xup I a f) b g) c s) a k v = xup (xup (xup I a (xup f k v)) b g) c s := by rw [xw, xup_n _ _ (Ne.symm h2), xup_n _ _ (Ne.symm h), xup_s, xup_abca _ _ _ _ _ h h2]
theorem xw_reca (I : xI) {a b : Nat} (f g : Nat → Int32) {k : Nat} {v : Int32} (h : b ≠ a) : xw (xup (xup I a f) b g) a k v = xup (xup I a (xup f k v)) b g := by rw [xw, xup_n _ _ (Ne.symm h), xup_s, xup_comm _ _ _ h, xup_up]
theorem xup_aba (I : xI) {a b : Nat} (r1 q r2 : Nat → Int32) (h : b ≠ a) : xup (xup (xup I a r1) b q) a r2 = xup (xup I a r2) b q := by rw [xup_comm _ _ _ h, xup_up]
theorem x012 {p : Int32} (h : xin p 0 2 = true) : p = 0 ∨ p = 1 ∨ p = 2 := by
  rw [xin_iff] at h
  grind
theorem hOK_sd {f : Nat → Int32} (h : hOK f) : hOK (hStd f) := hOK_std h.2
theorem xwsp_w {v : Int32} (h : xwsp v = true) : ¬ v / 100 < 0 := by
  simp only [xwsp, Bool.and_eq_true] at h
  exact xin_nn h.1.2
theorem xss_w {v : Int32} (h : xss v = true) : ¬ v / 100 < 0 := by
  simp only [xss, Bool.and_eq_true] at h
  exact xin_nn h.1.2
theorem hBegin_eq {f : Nat → Int32} (h : hZ f) (k m : Int32) : hBegin k m f = xup (xup (fun _ => 0) 0 k) 1 m := by
  funext j
  unfold hBegin hStd
  rcases Nat.lt_or_ge j 8 with q | q
  · have : j = 0 ∨ j = 1 ∨ j = 2 ∨ j = 3 ∨ j = 4 ∨ j = 5 ∨ j = 6 ∨ j = 7 := by omega
    rcases this with rfl | rfl | rfl | rfl | rfl | rfl | rfl | rfl <;> simp [xup]
  · rw [xup_n _ _ (show j ≠ 7 by omega), xup_n _ _ (show j ≠ 6 by omega), xup_n _ _ (show j ≠ 5 by omega), xup_n _ _ (show j ≠ 4 by omega), xup_n _ _ (show j ≠ 3 by omega), xup_n _ _ (show j ≠ 2 by omega), xup_n _ _ (show j ≠ 1 by omega), xup_n _ _ (show j ≠ 0 by omega), h j q, xup_n _ _ (show j ≠ 1 by omega), xup_n _ _ (show j ≠ 0 by omega)]
