/-- the reference's words: the order, the padded letters -/
def wqf (w : Nat) : Nat := if w < 3 then w + 1 else if w < 9 then w + 4 else w - 5
def kix (q : Nat) : Nat := if q = 0 then 12 else if q < 4 then q - 1 else if q < 7 then q + 5 else q - 4
def wtb (w i : Nat) : Nat := if i < slq (wqf w) then byq (wqf w) i else 32
def WT (a : Nat → Nat → Int32) : Prop := ∀ w, w < 12 → ∀ i, i < 8 → a 64 (8 * w + i) = nI (wtb w i)
def pdb (tp : Nat → Nat) (b e i : Nat) : Nat := if b + i < e then tp (b + i) else 32
theorem wt_all : ∀ w, w < 12 → slq (wqf w) ≤ 8 ∧ (1 ≤ wqf w ∧ wqf w < 13 ∧ kix (wqf w) = w) ∧ ∀ i, i < 8 → (i < slq (wqf w) → byq (wqf w) i ≠ 32) ∧ wtb w i < 256 := by decide +kernel
theorem wqf_ix : ∀ q, q < 13 → 1 ≤ q → kix q < 12 ∧ wqf (kix q) = q := by decide +kernel
section QW
variable {tp : Nat → Nat} {b e : Nat}
theorem qfs_sp : (qfs tp b e = 0 ∧ ∀ q, 1 ≤ q → q < 13 → mtw tp q b e = false) ∨ (1 ≤ qfs tp b e ∧ qfs tp b e < 13 ∧ mtw tp (qfs tp b e) b e = true) := by
  rw [qfs]
  by_cases h1 : mtw tp 1 b e = true; · rw [if_pos h1]; exact Or.inr ⟨by decide, by decide, h1⟩
  rw [if_neg h1]
  by_cases h2 : mtw tp 2 b e = true; · rw [if_pos h2]; exact Or.inr ⟨by decide, by decide, h2⟩
  rw [if_neg h2]
  by_cases h3 : mtw tp 3 b e = true; · rw [if_pos h3]; exact Or.inr ⟨by decide, by decide, h3⟩
  rw [if_neg h3]
  by_cases h4 : mtw tp 4 b e = true; · rw [if_pos h4]; exact Or.inr ⟨by decide, by decide, h4⟩
  rw [if_neg h4]
  by_cases h5 : mtw tp 5 b e = true; · rw [if_pos h5]; exact Or.inr ⟨by decide, by decide, h5⟩
  rw [if_neg h5]
  by_cases h6 : mtw tp 6 b e = true; · rw [if_pos h6]; exact Or.inr ⟨by decide, by decide, h6⟩
  rw [if_neg h6]
  by_cases h7 : mtw tp 7 b e = true; · rw [if_pos h7]; exact Or.inr ⟨by decide, by decide, h7⟩
  rw [if_neg h7]
  by_cases h8 : mtw tp 8 b e = true; · rw [if_pos h8]; exact Or.inr ⟨by decide, by decide, h8⟩
  rw [if_neg h8]
  by_cases h9 : mtw tp 9 b e = true; · rw [if_pos h9]; exact Or.inr ⟨by decide, by decide, h9⟩
  rw [if_neg h9]
  by_cases h10 : mtw tp 10 b e = true; · rw [if_pos h10]; exact Or.inr ⟨by decide, by decide, h10⟩
  rw [if_neg h10]
  by_cases h11 : mtw tp 11 b e = true; · rw [if_pos h11]; exact Or.inr ⟨by decide, by decide, h11⟩
  rw [if_neg h11]
  by_cases h12 : mtw tp 12 b e = true; · rw [if_pos h12]; exact Or.inr ⟨by decide, by decide, h12⟩
  rw [if_neg h12]
  refine Or.inl ⟨rfl, fun q a1 a2 => Bool.eq_false_iff.mpr ?_⟩
  rcases (show q = 1 ∨ q = 2 ∨ q = 3 ∨ q = 4 ∨ q = 5 ∨ q = 6 ∨ q = 7 ∨ q = 8 ∨ q = 9 ∨ q = 10 ∨ q = 11 ∨ q = 12 by omega) with rfl | rfl | rfl | rfl | rfl | rfl | rfl | rfl | rfl | rfl | rfl | rfl <;> assumption
theorem qfs_is {q : Nat} (hq : 1 ≤ q ∧ q < 13) (h : mtw tp q b e = true) : qfs tp b e = q := by
  rcases qfs_sp (tp := tp) (b := b) (e := e) with ⟨_, h2⟩ | ⟨h1, h2, h3⟩
  · rw [h2 q hq.1 hq.2] at h; cases h
  · exact mtw_u ⟨h1, h2⟩ hq h3 h
theorem qfs_no (h : ∀ w, w < 12 → mtw tp (wqf w) b e = false) : qfs tp b e = 0 := by
  rcases qfs_sp (tp := tp) (b := b) (e := e) with ⟨h1, _⟩ | ⟨h1, h2, h3⟩
  · exact h1
  · have hx := wqf_ix _ h2 h1
    have := h _ hx.1
    rw [hx.2, h3] at this; cases this
theorem pm_eq {w : Nat} (hw : w < 12) (hbe : b ≤ e) (hlt : ∀ i, b ≤ i → i < e → tp i ≠ 32) : (e - b ≤ 8 ∧ ∀ i, i < 8 → wtb w i = pdb tp b e i) ↔ mtw tp (wqf w) b e = true := by
  obtain ⟨k1, -, k3⟩ := wt_all w hw
  rw [mtw, Bool.and_eq_true, decide_eq_true_eq, mtL_t]
  constructor
  · rintro ⟨h1, h2⟩
    have he : e = b + slq (wqf w) := by
      rcases Nat.lt_trichotomy (e - b) (slq (wqf w)) with z | z | z
      · have h3 := h2 (e - b) (by omega)
        rw [wtb, if_pos z, pdb, if_neg (by omega)] at h3
        exact absurd h3 ((k3 (e - b) (by omega)).1 z)
      · omega
      · have h3 := h2 (slq (wqf w)) (by omega)
        rw [wtb, if_neg (Nat.lt_irrefl _), pdb, if_pos (by omega)] at h3
        exact absurd h3.symm (hlt _ (by omega) (by omega))
    refine ⟨he, fun i hi => ?_⟩
    have h3 := h2 i (by omega)
    rw [wtb, if_pos hi, pdb, if_pos (by omega)] at h3
    exact h3.symm
  · rintro ⟨h1, h2⟩
    refine ⟨by omega, fun i hi => ?_⟩
    rw [wtb, pdb]
    by_cases hi2 : i < slq (wqf w)
    · rw [if_pos hi2, if_pos (by omega)]; exact (h2 i hi2).symm
    · rw [if_neg hi2, if_neg (by omega)]
end QW
theorem m_wf_I {sh : List (Nat × Nat)} {a : Nat → Nat → Int32} {r : Nat → Nat → Option Nat} {g : Nat → Nat → Int64} {tp : Nat → Nat} {nb b e : Nat} (hW : WD sh r) (hWT : WT a) (hP : TP 50 8 55 nb tp a) (hnb : nb ≤ 160) (h256 : ∀ i, i < nb → tp i < 256) (hbe : b ≤ e) (he : e ≤ nb) {w : Nat} (hw : w < 12) {Q : Option g_V → g_H → Prop} {N0 : Nat} : ∀ (m i : Nat) (fl : Bool), i + m = 8 → (fl = true ↔ (e - b ≤ 8 ∧ ∀ j, j < i → wtb w j = pdb tp b e j)) → (∀ (fl' : Bool) (x5 : Option g_V), (fl' = true ↔ (e - b ≤ 8 ∧ ∀ j, j < 8 → wtb w j = pdb tp b e j)) → Gd YX8_wordFrom (z0 0 N0 Q) 0 0 88 [some (vr 50), some (vi (nI b)), some (vi (nI e)), some (vi (nI w)), some (vi (bI fl')), x5] [] (sh, a, r, g)) → Gd YX8_wordFrom (z0 0 N0 Q) 0 0 26 [some (vr 50), some (vi (nI b)), some (vi (nI e)), some (vi (nI w)), some (vi (bI fl)), some (vi (nI i))] [] (sh, a, r, g)
  | 0, i, fl, hn, hf, kq => by
    refine Gd_iload (i := 5) rfl eX8_wordFrom_26 ?_
    refine Gd_bipush kb_8 eX8_wordFrom_28 ?_
    refine Gd_icmp_geN (by first | omega | decide) (by first | omega | decide) eX8_wordFrom_30 (fun c30 => ?_) (fun c30 => ?_)
    · exact kq fl (some (vi (nI i))) (by rw [hf, show i = 8 by omega])
    · refine Gd_iload (i := 4) rfl eX8_wordFrom_33 ?_
      refine Gd_if_eqB eX8_wordFrom_35 (fun c35 => ?_) (fun c35 => ?_)
      · exact kq fl (some (vi (nI i))) ⟨fun z => absurd (z.symm.trans c35) (by decide), fun z => hf.mpr ⟨z.1, fun j hj => z.2 j (by omega)⟩⟩
      · exact absurd c30 (by omega)
  | m + 1, i, fl, hn, hf, kq => by
    refine Gd_iload (i := 5) rfl eX8_wordFrom_26 ?_
    refine Gd_bipush kb_8 eX8_wordFrom_28 ?_
    refine Gd_icmp_geN (by first | omega | decide) (by first | omega | decide) eX8_wordFrom_30 (fun c30 => ?_) (fun c30 => ?_)
    · exact kq fl (some (vi (nI i))) (by rw [hf, show i = 8 by omega])
    · refine Gd_iload (i := 4) rfl eX8_wordFrom_33 ?_
      refine Gd_if_eqB eX8_wordFrom_35 (fun c35 => ?_) (fun c35 => ?_)
      · exact kq fl (some (vi (nI i))) ⟨fun z => absurd (z.symm.trans c35) (by decide), fun z => hf.mpr ⟨z.1, fun j hj => z.2 j (by omega)⟩⟩
      · have hwb := ((wt_all w hw).2.2 i (by omega)).2
        refine Gd_aload_n (i := 0) rfl eX8_wordFrom_38 ?_
        refine Gd_getR fl_RX8_53 (W_s50 hW) (W_r50_24 hW) eX8_wordFrom_39 ?_
        refine Gd_bipush kb_8 eX8_wordFrom_42 ?_
        refine Gd_iload_n (i := 3) rfl eX8_wordFrom_44 ?_
        refine Gd_imulN eX8_wordFrom_45 ?_
        refine Gd_iload (i := 5) rfl eX8_wordFrom_46 ?_
        refine Gd_iaddN eX8_wordFrom_48 ?_
        refine Gd_ialdE (v := nI (wtb w i)) (W_s64 hW) (by first | omega | decide) (hWT w hw i (by omega) :) eX8_wordFrom_49 ?_
        refine Gd_iload_n (i := 1) rfl eX8_wordFrom_50 ?_
        refine Gd_iload (i := 5) rfl eX8_wordFrom_51 ?_
        refine Gd_iaddN eX8_wordFrom_53 ?_
        refine Gd_iload_n (i := 2) rfl eX8_wordFrom_54 ?_
        refine Gd_icmp_geN (by first | omega | decide) (by first | omega | decide) eX8_wordFrom_55 (fun c55 => ?_) (fun c55 => ?_)
        · refine Gd_bipush kb_32 eX8_wordFrom_70 ?_
          refine Gd_icmp_neN (by first | omega | decide) (by first | omega | decide) eX8_wordFrom_72 (fun c72 => ?_) (fun c72 => ?_)
          · refine Gd_iconst ki_0 eX8_wordFrom_79 ?_
            refine Gd_istore4 rfl eX8_wordFrom_80 ?_
            refine Gd_iinc5 (ho := rfl) (he := nI_inc _) eX8_wordFrom_82 ?_
            refine Gd_goto eX8_wordFrom_85 ?_
            exact m_wf_I hW hWT hP hnb h256 hbe he hw m (i + 1) false (by omega) ⟨fun z => absurd z (by decide), fun z => absurd (z.2 i (by omega)) (by rw [pdb, if_neg (by omega)]; exact c72)⟩ kq
          · refine Gd_iconst ki_1 eX8_wordFrom_75 ?_
            refine Gd_goto eX8_wordFrom_76 ?_
            refine Gd_istore4 rfl eX8_wordFrom_80 ?_
            refine Gd_iinc5 (ho := rfl) (he := nI_inc _) eX8_wordFrom_82 ?_
            refine Gd_goto eX8_wordFrom_85 ?_
            exact m_wf_I hW hWT hP hnb h256 hbe he hw m (i + 1) true (by omega) ⟨fun _ => ⟨(hf.mp c35).1, fun j hj => if e2 : j = i then (by rw [e2, pdb, if_neg (by omega)]; exact c72) else (hf.mp c35).2 j (by omega)⟩, fun _ => rfl⟩ kq
        · have htb := h256 (b + i) (by omega)
          refine Gd_aload_n (i := 0) rfl eX8_wordFrom_58 ?_
          refine Gd_getR fl_RX8_26 (W_s50 hW) (W_r50_7 hW) eX8_wordFrom_59 ?_
          refine Gd_iload_n (i := 1) rfl eX8_wordFrom_62 ?_
          refine Gd_iload (i := 5) rfl eX8_wordFrom_63 ?_
          refine Gd_iaddN eX8_wordFrom_65 ?_
          refine Gd_ialdE (v := nI (tp (b + i))) (W_s55 hW) (by first | omega | decide) (hP.2 (b + i) (by omega) :) eX8_wordFrom_66 ?_
          refine Gd_goto eX8_wordFrom_67 ?_
          refine Gd_icmp_neN (by first | omega | decide) (by first | omega | decide) eX8_wordFrom_72 (fun c72 => ?_) (fun c72 => ?_)
          · refine Gd_iconst ki_0 eX8_wordFrom_79 ?_
            refine Gd_istore4 rfl eX8_wordFrom_80 ?_
            refine Gd_iinc5 (ho := rfl) (he := nI_inc _) eX8_wordFrom_82 ?_
            refine Gd_goto eX8_wordFrom_85 ?_
            exact m_wf_I hW hWT hP hnb h256 hbe he hw m (i + 1) false (by omega) ⟨fun z => absurd z (by decide), fun z => absurd (z.2 i (by omega)) (by rw [pdb, if_pos (by omega)]; exact c72)⟩ kq
          · refine Gd_iconst ki_1 eX8_wordFrom_75 ?_
            refine Gd_goto eX8_wordFrom_76 ?_
            refine Gd_istore4 rfl eX8_wordFrom_80 ?_
            refine Gd_iinc5 (ho := rfl) (he := nI_inc _) eX8_wordFrom_82 ?_
            refine Gd_goto eX8_wordFrom_85 ?_
            exact m_wf_I hW hWT hP hnb h256 hbe he hw m (i + 1) true (by omega) ⟨fun _ => ⟨(hf.mp c35).1, fun j hj => if e2 : j = i then (by rw [e2, pdb, if_pos (by omega)]; exact c72) else (hf.mp c35).2 j (by omega)⟩, fun _ => rfl⟩ kq
theorem m_wf_O {sh : List (Nat × Nat)} {a : Nat → Nat → Int32} {r : Nat → Nat → Option Nat} {g : Nat → Nat → Int64} {tp : Nat → Nat} {nb b e : Nat} (hW : WD sh r) (hWT : WT a) (hP : TP 50 8 55 nb tp a) (hnb : nb ≤ 160) (h256 : ∀ i, i < nb → tp i < 256) (hbe : b ≤ e) (he : e ≤ nb) (hlt : ∀ i, b ≤ i → i < e → tp i ≠ 32) {Q : Option g_V → g_H → Prop} {N0 : Nat} : ∀ (m w : Nat) (x4 x5 : Option g_V), w + m = 12 → (∀ v, v < w → mtw tp (wqf v) b e = false) → Q (some (vi (nI (kix (qfs tp b e))))) (sh, a, r, g) → Gd YX8_wordFrom (z0 0 N0 Q) 0 0 2 [some (vr 50), some (vi (nI b)), some (vi (nI e)), some (vi (nI w)), x4, x5] [] (sh, a, r, g)
  | 0, w, x4, x5, hn, hno, kq => by
    refine Gd_iload_n (i := 3) rfl eX8_wordFrom_2 ?_
    refine Gd_bipush kb_12 eX8_wordFrom_3 ?_
    refine Gd_icmp_geN (by first | omega | decide) (by first | omega | decide) eX8_wordFrom_5 (fun c5 => ?_) (fun c5 => ?_)
    · refine Gd_bipush kb_12 eX8_wordFrom_101 ?_
      exact Gd_ireturn eX8_wordFrom_103 rfl (Nat.le_refl _) (Nat.le_refl _) (by rw [qfs_no (fun v hv => hno v (by omega))] at kq; exact kq)
    · exact absurd c5 (by omega)
  | m + 1, w, x4, x5, hn, hno, kq => by
    refine Gd_iload_n (i := 3) rfl eX8_wordFrom_2 ?_
    refine Gd_bipush kb_12 eX8_wordFrom_3 ?_
    refine Gd_icmp_geN (by first | omega | decide) (by first | omega | decide) eX8_wordFrom_5 (fun c5 => ?_) (fun c5 => ?_)
    · exact absurd c5 (by omega)
    · refine Gd_iload_n (i := 2) rfl eX8_wordFrom_8 ?_
      refine Gd_iload_n (i := 1) rfl eX8_wordFrom_9 ?_
      refine Gd_isubN (by first | omega | decide) eX8_wordFrom_10 ?_
      refine Gd_bipush kb_8 eX8_wordFrom_11 ?_
      refine Gd_icmp_gtN (by first | omega | decide) (by first | omega | decide) eX8_wordFrom_13 (fun c13 => ?_) (fun c13 => ?_)
      · refine Gd_iconst ki_0 eX8_wordFrom_20 ?_
        refine Gd_istore4 rfl eX8_wordFrom_21 ?_
        refine Gd_iconst ki_0 eX8_wordFrom_23 ?_
        refine Gd_istore5 rfl eX8_wordFrom_24 ?_
        refine m_wf_I hW hWT hP hnb h256 hbe he (w := w) (by omega) 8 0 false (by omega) ⟨fun z => absurd z (by decide), fun z => absurd z.1 (by omega)⟩ (fun fl x5 hf => ?_)
        have hm := hf.trans (pm_eq (w := w) (by omega) hbe hlt)
        refine Gd_iload (i := 4) rfl eX8_wordFrom_88 ?_
        refine Gd_if_eqB eX8_wordFrom_90 (fun c90 => ?_) (fun c90 => ?_)
        · refine Gd_iinc3 (ho := rfl) (he := nI_inc _) eX8_wordFrom_95 ?_
          refine Gd_goto eX8_wordFrom_98 ?_
          exact m_wf_O hW hWT hP hnb h256 hbe he hlt m (w + 1) _ _ (by omega) (fun v hv => if e2 : v = w then (by rw [e2]; exact Bool.eq_false_iff.mpr (fun z => absurd ((hm.mpr z).symm.trans c90) (by decide))) else hno v (by omega)) kq
        · refine Gd_iload_n (i := 3) rfl eX8_wordFrom_93 ?_
          exact Gd_ireturn eX8_wordFrom_94 rfl (Nat.le_refl _) (Nat.le_refl _) (by have hq := wt_all w (by omega); rw [qfs_is ⟨hq.2.1.1, hq.2.1.2.1⟩ (hm.mp c90), hq.2.1.2.2] at kq; exact kq)
      · refine Gd_iconst ki_1 eX8_wordFrom_16 ?_
        refine Gd_goto eX8_wordFrom_17 ?_
        refine Gd_istore4 rfl eX8_wordFrom_21 ?_
        refine Gd_iconst ki_0 eX8_wordFrom_23 ?_
        refine Gd_istore5 rfl eX8_wordFrom_24 ?_
        refine m_wf_I hW hWT hP hnb h256 hbe he (w := w) (by omega) 8 0 true (by omega) ⟨fun _ => ⟨by omega, fun j hj => absurd hj (Nat.not_lt_zero _)⟩, fun _ => rfl⟩ (fun fl x5 hf => ?_)
        have hm := hf.trans (pm_eq (w := w) (by omega) hbe hlt)
        refine Gd_iload (i := 4) rfl eX8_wordFrom_88 ?_
        refine Gd_if_eqB eX8_wordFrom_90 (fun c90 => ?_) (fun c90 => ?_)
        · refine Gd_iinc3 (ho := rfl) (he := nI_inc _) eX8_wordFrom_95 ?_
          refine Gd_goto eX8_wordFrom_98 ?_
          exact m_wf_O hW hWT hP hnb h256 hbe he hlt m (w + 1) _ _ (by omega) (fun v hv => if e2 : v = w then (by rw [e2]; exact Bool.eq_false_iff.mpr (fun z => absurd ((hm.mpr z).symm.trans c90) (by decide))) else hno v (by omega)) kq
        · refine Gd_iload_n (i := 3) rfl eX8_wordFrom_93 ?_
          exact Gd_ireturn eX8_wordFrom_94 rfl (Nat.le_refl _) (Nat.le_refl _) (by have hq := wt_all w (by omega); rw [qfs_is ⟨hq.2.1.1, hq.2.1.2.1⟩ (hm.mp c90), hq.2.1.2.2] at kq; exact kq)
theorem m_wordFrom {sh : List (Nat × Nat)} {a : Nat → Nat → Int32} {r : Nat → Nat → Option Nat} {g : Nat → Nat → Int64} {tp : Nat → Nat} {nb b e : Nat} (hW : WD sh r) (hWT : WT a) (hP : TP 50 8 55 nb tp a) (hnb : nb ≤ 160) (h256 : ∀ i, i < nb → tp i < 256) (hbe : b ≤ e) (he : e ≤ nb) (hlt : ∀ i, b ≤ i → i < e → tp i ≠ 32) : Mt YX8_wordFrom 0 0 0 [vr 50, vi (nI b), vi (nI e)] (sh, a, r, g) (g_P (some (vi (nI (kix (qfs tp b e))))) (sh, a, r, g)) := by
  refine Mt_of rfl (Nat.le_of_ble_eq_true rfl) rfl ?_
  refine Gd_iconst ki_0 eX8_wordFrom_0 ?_
  refine Gd_istore_n3 rfl eX8_wordFrom_1 ?_
  exact m_wf_O hW hWT hP hnb h256 hbe he hlt 12 0 none none (by omega) (fun v hv => absurd hv (Nat.not_lt_zero _)) ⟨rfl, rfl⟩
