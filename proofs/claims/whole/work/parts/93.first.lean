def wFirst : List Int32 := [98, 117, 105, 108, 100, 115, 32, 50, 48, 32, 43, 32, 115, 112, 101, 101, 100, 32, 42, 32, 49, 48, 32, 59, 32, 102, 97, 100, 101, 115, 32, 49, 48, 32, 59, 32, 98, 101, 110, 100, 115, 32, 49, 48, 48, 32, 59, 32]
def fE (g : Nat → Int32) (n p : Nat) (cs : List Int32) : Bool × Nat × List Int32 × Int32 × List Int32 := zE (xla wWords) g n (vNx g n (zBl g n p)) cs
def fP (g : Nat → Int32) (n p : Nat) (cs : List Int32) : Nat := vNx g n (zBl g n (fE g n p cs).2.1)
def fC (g : Nat → Int32) (n p : Nat) (cs : List Int32) : List Int32 := (fE g n p cs).2.2.2.2
def fK (g : Nat → Int32) (n : Nat) (k : Int32) (p : Nat) (cs : List Int32) : Bool := decide (zTk (xla wWords) g n (zBl g n p) = 3) && decide (zVa (xla wWords) g n (zBl g n p) = k) && (fE g n p cs).1
theorem fK_gd {g : Nat → Int32} {n : Nat} {k : Int32} {p p' : Nat} {cs cs' : List Int32} (h : fK g n k p cs = true) (hp : fP g n p cs = p') (hc : fC g n p cs = cs') : zGd (xla wWords) g n k p cs p' cs' := by
  unfold fK at h
  rw [Bool.and_eq_true, Bool.and_eq_true] at h
  exact ⟨of_decide_eq_true h.1.1, of_decide_eq_true h.1.2, h.2, hp.symm, hc.symm⟩
theorem zGd_fun {wd g : Nat → Int32} {n : Nat} {k : Int32} {p p1 p2 : Nat} {cs c1 c2 : List Int32} (h : zGd wd g n k p cs p1 c1) (h2 : zGd wd g n k p cs p2 c2) : p1 = p2 ∧ c1 = c2 := ⟨h.2.2.2.1.trans h2.2.2.2.1.symm, h.2.2.2.2.trans h2.2.2.2.2.symm⟩
theorem zGd_nbd {wd g : Nat → Int32} {n : Nat} {k : Int32} {p p1 q : Nat} {cs c1 : List Int32} (h : zGd wd g n k p cs p1 c1) (h2 : zBd wd g n k p cs q) : False := by
  rcases h2 with ⟨z, -⟩ | ⟨-, -, z, -⟩
  · exact z ⟨h.1, h.2.1⟩
  · rw [h.2.2.1] at z; cases z
def mp1 : Nat := fP (xla wLaw) 47 0 []
def mc1 : List Int32 := fC (xla wLaw) 47 0 []
def mp2 : Nat := fP (xla wLaw) 47 mp1 mc1
def mc2 : List Int32 := fC (xla wLaw) 47 mp1 mc1
def mp3 : Nat := fP (xla wLaw) 47 mp2 mc2
def mc3 : List Int32 := fC (xla wLaw) 47 mp2 mc2
theorem tx_m0 : fK (xla wLaw) 47 0 0 [] = true := by decide +kernel
theorem tx_m1 : fK (xla wLaw) 47 1 mp1 mc1 = true := by decide +kernel
theorem tx_m2 : fK (xla wLaw) 47 2 mp2 mc2 = true := by decide +kernel
theorem tx_m3 : zTk (xla wWords) (xla wLaw) 47 (zBl (xla wLaw) 47 mp3) = 0 := by decide +kernel
def kp1 : Nat := fP (xla wFirst) 48 0 []
def kp2 : Nat := fP (xla wFirst) 48 kp1 mc1
def kp3 : Nat := fP (xla wFirst) 48 kp2 mc2
theorem tx_c0 : fK (xla wFirst) 48 0 0 [] = true := by decide +kernel
theorem tx_d0 : fC (xla wFirst) 48 0 [] = mc1 := by decide +kernel
theorem tx_c1 : fK (xla wFirst) 48 1 kp1 mc1 = true := by decide +kernel
theorem tx_d1 : fC (xla wFirst) 48 kp1 mc1 = mc2 := by decide +kernel
theorem tx_c2 : fK (xla wFirst) 48 2 kp2 mc2 = true := by decide +kernel
theorem tx_d2 : fC (xla wFirst) 48 kp2 mc2 = mc3 := by decide +kernel
theorem tx_c3 : zTk (xla wWords) (xla wFirst) 48 (zBl (xla wFirst) 48 kp3) = 0 := by decide +kernel
theorem tx_pos : ∀ j, j < 48 → ¬ xla wFirst j < 0 := by decide +kernel
theorem tx_posm : ∀ j, j < 47 → ¬ xla wLaw j < 0 := by decide +kernel
theorem tx_wd : ∀ j, j < 96 → xla wWords j = zWd j := by decide +kernel
theorem tx_len : mc3.length ≤ 160 := by decide +kernel
/-- the model's memory before it reads the first text -/
def jMod (I : xI) : xI := xw (xup (iMod I) 63 (xla wLaw)) 59 5 47
theorem iMod_70 (I : xI) : iMod I 70 = xla wLaw := rfl
theorem jMod_71 (I : xI) : jMod I 71 = xla wWords := rfl
theorem jMod_63 (I : xI) : jMod I 63 = xla wLaw := rfl
theorem wl_Model_init (l : Launch) (G : xG) {d : Nat} (I : xI) {Z : List Frame → Array Value → State → State → Prop} (hI : I 70 = xla wLaw) (kk : XW l G (xR d 15 2171) y_Model_init b_Model_init 2 none xK0 Z 75 (xm G xYf (xup I 63 (xla wLaw))) 15 2171 1013 [(0, .ref (xg G 59))] []) : ∀ (k i : Nat), i + k = 47 → XW l G (xR d 15 2171) y_Model_init b_Model_init 2 none xK0 Z 75 (xm G xYf (xup I 63 (xla (wLaw.take i)))) 15 2171 989 [(0, .ref (xg G 59)), (1, .int (nI i))] [] := by
  intro k
  induction k with
  | zero =>
    intro i hi
    have e : i = 47 := by omega
    have e2 : wLaw.take 47 = wLaw := rfl
    rw [e, e2]
    refine X_iload_n d_Model_init_989 rfl rfl ?_
    refine X_bipush (v := 47) d_Model_init_990 rfl ?_
    refine X_icmp_ge (tgt := 1013) d_Model_init_992 (by decide) (fun _ => ?_) (fun z => absurd (show (47 : Int32) ≤ nI 47 by decide) z)
    exact X_sub [0] rfl kk
  | succ k ih =>
    intro i hi
    have hi2 : i < 47 := by omega
    have hw : wLaw[i]? = some (xla wLaw i) := by
      unfold xla
      rw [List.getD_eq_getElem?_getD, List.getElem?_eq_getElem (show i < wLaw.length from hi2)]
      rfl
    refine X_iload_n d_Model_init_989 rfl rfl ?_
    refine X_bipush (v := 47) d_Model_init_990 rfl ?_
    refine X_icmp_ge (tgt := 1013) d_Model_init_992 (by decide) (fun z => absurd (nI_done (T := 47) (by omega) (by decide) z) (by omega)) (fun _ => ?_)
    refine X_aload_n d_Model_init_995 rfl rfl ?_
    refine X_getR (r := 63) fg_Model_19 (show xYf 59 = some sModel from rfl) rfl d_Model_init_996 ?_
    refine X_iload_n d_Model_init_999 rfl rfl ?_
    refine X_aload_n d_Model_init_1000 rfl rfl ?_
    refine X_getR (r := 70) fg_Model_40 (show xYf 59 = some sModel from rfl) rfl d_Model_init_1001 ?_
    refine X_iload_n d_Model_init_1004 rfl rfl ?_
    refine X_aldI (a := 70) (N := 47) (v := xla wLaw i) rfl (vp_in_nI hi2 (by decide)) (by rw [nI_cl (by omega), xup_n _ _ (show (70 : Nat) ≠ 63 by decide), hI]) d_Model_init_1005 ?_
    refine X_astI (a := 63) (N := 160) rfl (vp_in_nI (show i < 160 by omega) (by decide)) d_Model_init_1006 ?_
    rw [nI_cl (show i < 2 ^ 31 by omega), xw_rec, xla_take hw]
    refine X_iinc d_Model_init_1007 rfl (v := nI (i + 1)) (by rw [← nI_1]; rfl) (by decide) [1, 0] (L' := [(0, .ref (xg G 59)), (1, .int (nI (i + 1)))]) rfl ?_
    refine X_goto (tgt := 989) d_Model_init_1010 (by decide) ?_
    exact ih (i + 1) (by omega)
theorem c_Model_init (l : Launch) (G : xG) {d : Nat} (hd : 6 ≤ d) (I : xI) : ∃ J', XM l G d y_Model_init b_Model_init 2 none 15 2171 xK0 [.ref (xg G 59)] 60 (mR G 59 5 60 I (vMod G 60)) none 75 (xm G xYf J') ∧ KP 0 (jMod I) J' ∧ J' 59 8 = nI 1 ∧ J' 64 = zC 0 mc3 (jMod I 64) ∧ J' 65 0 = nI 0 ∧ J' 65 1 = nI mc1.length ∧ J' 65 2 = nI mc2.length ∧ J' 65 3 = nI mc3.length := by
  obtain ⟨J', b, kp, k8, k64, k0, k1, k2, k3⟩ := Model_text_ok l G (d := d - 1) 75 (by omega) (jMod I) 0 rfl (by decide) 47 rfl (by decide) tx_posm mp1 mp2 mp3 mc1 mc2 mc3 (fK_gd tx_m0 rfl rfl) (fK_gd tx_m1 rfl rfl) (fK_gd tx_m2 rfl rfl) tx_m3
  refine ⟨J', ?_, kp, k8, k64, k0, k1, k2, k3⟩
  refine XM.of (by decide) (Nat.le_of_ble_eq_true rfl) (L := [(0, .ref (xg G 59))]) rfl ?_
  refine w_Model_init l G (by omega) I ?_
  refine X_iconst (v := 0) d_Model_init_987 rfl ?_
  refine X_istore_n d_Model_init_988 rfl (by decide) [1, 0] (L' := [(0, .ref (xg G 59)), (1, .int 0)]) rfl ?_
  have e0 : xm G xYf (iMod I) = xm G xYf (xup (iMod I) 63 (xla (wLaw.take 0))) := by
    congr 1
    exact (xup_self (iMod I) 63).symm
  rw [e0]
  refine wl_Model_init l G (iMod I) (iMod_70 I) ?_ 47 0 rfl
  refine X_aload_n d_Model_init_1013 rfl rfl ?_
  refine X_bipush (v := 47) d_Model_init_1014 rfl ?_
  refine X_putI fp_Model_55 (show xYf 59 = some sModel from rfl) rfl d_Model_init_1016 ?_
  refine X_aload_n d_Model_init_1019 rfl rfl ?_
  refine X_callV (v := .int (nI 0)) (rest := []) b lk_Model_text ml_Model_59 (xm_obj (show xYf 59 = some sModel from rfl)) rfl rfl (Nat.le_of_ble_eq_true rfl) (xRok (d' := d - 1) (by omega) (by decide)) ⟨Nat.le_refl _, Nat.le_refl _⟩ d_Model_init_1020 rfl ?_
  refine X_pop d_Model_init_1023 rfl ?_
  exact X_vret rfl rfl (xle_rf _) d_Model_init_1024
