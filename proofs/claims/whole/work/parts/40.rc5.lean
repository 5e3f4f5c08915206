theorem sp_findD {g : aw_G} {S D : aw_S} {E0 : ts_T} {N : nm_T} {R : Nat} {s : sq_T} {n : Nat} {T : Nat → Int32} {p q w l k e z : Int32} {X : Nat → Int32} (hI : itC S E0 N R s D) (hc : TPc S n T) {a len : Nat} (ha : a + len ≤ n) : Sp g M_Tb_find 2 47 0 0 [.ref 18, .ref 1, .int (nI a), .int (nI len)] (HP (QC D p q w l k e z X)) (fun r h => r = some (.int (oI (nmF N T a len))) ∧ h = HP (QC D p q w l k e z X)) := by
  have hD := (frC_TP hI.1 hc)
  have q1 := sp_Tb_find_18 (g := g) (S := QC D p q w l k e z X) (nv := N.1) (nr := R) (nl := N.2.1) (nmC_T hI.2.1 hI.2.2.1.1 hI.2.2.1.2) (n := n) (a := a) (len := len) hD.1 hD.2.1 ha
  rw [show fdB (nmB ((QC D p q w l k e z X).2 20) ((QC D p q w l k e z X).2 19) len (fun i => (QC D p q w l k e z X).2 2 (a + i))) N.1 0 = nmF N T a len from nmC_find hI.2.1 (by have := hc.2.1; omega) (fun i hi => hD.2.2.1 _ (by omega))] at q1
  exact q1
set_option maxRecDepth 20000 in
theorem sp_newName {g : aw_G} {S D : aw_S} {E0 : ts_T} {N : nm_T} {n : Nat} {T : Nat → Int32} {p : Nat} {q w l k e z : Int32} {X : Nat → Int32} (hI : itC S E0 N 0 [] D) (hc : TPc S n T) (hw : tsW E0) (hp : p ≤ n) : Sp g M_Sc_newName 3 71 0 0 [.ref 26, .ref 18] (HP (QC D (nI p) q w l k e z X)) (CG S E0 (nn T n N p) (fun (y : Nat × nm_T) h => ∃ (F : aw_S) (w l : Int32), itC S E0 y.2 0 [] F ∧ y.1 ≤ n ∧ h = HP (QC F (nI y.1) q w l k e z X))) := by
  refine Sp.of rfl (aw_le rfl) ?_
  refine aw_aload_n (aw_d q_Sc_newName 0 rfl) rfl rfl rfl ?_
  refine cVv (aw_d q_Sc_newName 1 rfl) (sp_word (frC_TP hI.1 hc) hp) vL_Sc_96_Sc rfl rfl rfl rfl rfl rfl ⟨aw_le rfl, aw_le rfl⟩ ?_
  refine aw_aload_n (aw_d q_Sc_newName 2 rfl) rfl rfl rfl ?_
  refine aw_getf (v := .int (nI ((we T n p - p)))) (aw_d q_Sc_newName 3 rfl) fL_Sc_35_Sc rfl (gk rfl) ?_
  refine aw_iconst (v := nI 1) (aw_d q_Sc_newName 4 rfl) (by decide) ?_
  refine aw_icmpN_lt (tgt := 21) (aw_d q_Sc_newName 5 rfl) (by decide) (by (have hwe := we_le (T := T) hp; have hc2 := hc.2.1; have h6 := hI.2.1.2.1; omega)) (by (have hwe := we_le (T := T) hp; have hc2 := hc.2.1; have h6 := hI.2.1.2.1; omega)) (fun c9 => ?_) (fun c9 => ?_)
  · refine aw_aload_n (aw_d q_Sc_newName 10 rfl) rfl rfl rfl ?_
    refine aw_aload_n (aw_d q_Sc_newName 11 rfl) rfl rfl rfl ?_
    refine aw_getf (v := .int (nI (p))) (aw_d q_Sc_newName 12 rfl) fL_Sc_32_Sc rfl (gk rfl) ?_
    refine cVr (aw_d q_Sc_newName 13 rfl) (sp_failAt) vL_Sc_99_Sc rfl rfl rfl rfl rfl rfl ⟨aw_le rfl, aw_le rfl⟩ ?_
    exact aw_zret (aw_d q_Sc_newName 14 rfl) rfl (rfl) (by rw [nn, if_neg (fun q => by have q1 := q.1; omega)]; exact CG_er (itC_bs hI hw (itOK_nil (k := 0))) CF_i)
  · refine aw_aload_n (aw_d q_Sc_newName 6 rfl) rfl rfl rfl ?_
    refine aw_getf (v := .int (nI ((we T n p - p)))) (aw_d q_Sc_newName 7 rfl) fL_Sc_35_Sc rfl (gk rfl) ?_
    refine aw_bipush (v := nI 8) (aw_d q_Sc_newName 8 rfl) (by decide) ?_
    refine aw_icmpN_le (tgt := 30) (aw_d q_Sc_newName 9 rfl) (by decide) (by (have hwe := we_le (T := T) hp; have hc2 := hc.2.1; have h6 := hI.2.1.2.1; omega)) (by (have hwe := we_le (T := T) hp; have hc2 := hc.2.1; have h6 := hI.2.1.2.1; omega)) (fun c18 => ?_) (fun c18 => ?_)
    · refine aw_aload_n (aw_d q_Sc_newName 15 rfl) rfl rfl rfl ?_
      refine aw_getf (v := .int (nI (N.1))) (aw_d q_Sc_newName 16 rfl) fL_Sc_102_Tb rfl (gk hI.2.1.1) ?_
      refine aw_bipush (v := nI 6) (aw_d q_Sc_newName 17 rfl) (by decide) ?_
      refine aw_icmpN_lt (tgt := 48) (aw_d q_Sc_newName 18 rfl) (by decide) (by (have hwe := we_le (T := T) hp; have hc2 := hc.2.1; have h6 := hI.2.1.2.1; omega)) (by (have hwe := we_le (T := T) hp; have hc2 := hc.2.1; have h6 := hI.2.1.2.1; omega)) (fun c36 => ?_) (fun c36 => ?_)
      · refine aw_aload_n (aw_d q_Sc_newName 24 rfl) rfl rfl rfl ?_
        refine aw_aload_n (aw_d q_Sc_newName 25 rfl) rfl rfl rfl ?_
        refine aw_getf (aw_d q_Sc_newName 26 rfl) fL_Sc_9_Sc rfl rfl ?_
        refine aw_aload_n (aw_d q_Sc_newName 27 rfl) rfl rfl rfl ?_
        refine aw_getf (v := .int (nI (p))) (aw_d q_Sc_newName 28 rfl) fL_Sc_32_Sc rfl (gk rfl) ?_
        refine aw_aload_n (aw_d q_Sc_newName 29 rfl) rfl rfl rfl ?_
        refine aw_getf (v := .int (nI ((we T n p - p)))) (aw_d q_Sc_newName 30 rfl) fL_Sc_35_Sc rfl (gk rfl) ?_
        refine cV (aw_d q_Sc_newName 31 rfl) (sp_findD hI hc (a := p) (len := we T n p - p) (by have := we_le (T := T) hp; omega)) vL_Sc_107_Tb rfl rfl rfl rfl rfl rfl ⟨aw_le rfl, aw_le rfl⟩ (fun r61 h61 hp61 => ?_)
        cases hx61 : nmF N T p (we T n p - p) with
        | none =>
          rw [hx61] at hp61
          obtain ⟨rfl, rfl⟩ := hp61
          refine aw_iconst (v := (-1)) (aw_d q_Sc_newName 32 rfl) (by decide) ?_
          refine aw_icmpZ_eq (tgt := 77) (aw_d q_Sc_newName 33 rfl) (by decide) (fun c65 => ?_) (fun c65 => by exact absurd rfl c65)
          refine aw_aload_n (aw_d q_Sc_newName 39 rfl) rfl rfl rfl ?_
          refine aw_aload_n (aw_d q_Sc_newName 40 rfl) rfl rfl rfl ?_
          refine aw_getf (aw_d q_Sc_newName 41 rfl) fL_Sc_9_Sc rfl rfl ?_
          refine aw_aload_n (aw_d q_Sc_newName 42 rfl) rfl rfl rfl ?_
          refine aw_getf (v := .int (nI (p))) (aw_d q_Sc_newName 43 rfl) fL_Sc_32_Sc rfl (gk rfl) ?_
          refine aw_aload_n (aw_d q_Sc_newName 44 rfl) rfl rfl rfl ?_
          refine aw_getf (v := .int (nI ((we T n p - p)))) (aw_d q_Sc_newName 45 rfl) fL_Sc_35_Sc rfl (gk rfl) ?_
          refine cV (aw_d q_Sc_newName 46 rfl) (sp_Tb_addVariable_18 (S := QC D (nI (we T n p)) q (nI p) (nI (we T n p - p)) k e z X) (nmC_T hI.2.1 hI.2.2.1.1 hI.2.2.1.2) (n := n) (a := p) (len := we T n p - p) (frC_TP hI.1 hc).1 hc.2.1 (by have hwe := we_le (T := T) hp; have hc2 := hc.2.1; have h6 := hI.2.1.2.1; omega) (by omega) (by omega) (by omega)) vL_Sc_111_Tb rfl rfl rfl rfl rfl rfl ⟨aw_le rfl, aw_le rfl⟩ (fun r90 h90 hp90 => ?_)
          obtain ⟨rfl, ND, rfl, hb1, hb2⟩ := hp90
          refine aw_iconst (v := nI 1) (aw_d q_Sc_newName 47 rfl) (by decide) ?_
          exact aw_zret (aw_d q_Sc_newName 48 rfl) rfl (rfl) (by rw [nn, if_pos ⟨⟨by omega, by omega⟩, by omega, hx61⟩]; exact CG_ok ⟨_, _, _, itC_nm hI (by omega) (by omega) (by omega) (fun i hi => (hb1 i hi).trans ((frC_TP hI.1 hc).2.2.1 _ (by have hwe := we_le (T := T) hp; omega))) hb2, (we_le hp).2, by rw [QC_sa (by decide), QC_sa (by decide), QC_si (by decide)]; rfl⟩)
        | some v61 =>
          rw [hx61] at hp61
          obtain ⟨rfl, rfl⟩ := hp61
          have hv61 := nmF_lt hx61
          refine aw_iconst (v := (-1)) (aw_d q_Sc_newName 32 rfl) (by decide) ?_
          refine aw_icmpJ_eq (tgt := 77) (aw_d q_Sc_newName 33 rfl) (by decide) (by (have hwe := we_le (T := T) hp; have hc2 := hc.2.1; have h6 := hI.2.1.2.1; omega)) (fun c65 => by (have h1 : (-1 : Int32).toInt = -1 := rfl; omega)) (fun c65 => ?_)
          refine aw_aload_n (aw_d q_Sc_newName 34 rfl) rfl rfl rfl ?_
          refine aw_aload_n (aw_d q_Sc_newName 35 rfl) rfl rfl rfl ?_
          refine aw_getf (v := .int (nI (p))) (aw_d q_Sc_newName 36 rfl) fL_Sc_32_Sc rfl (gk rfl) ?_
          refine cVr (aw_d q_Sc_newName 37 rfl) (sp_failAt) vL_Sc_99_Sc rfl rfl rfl rfl rfl rfl ⟨aw_le rfl, aw_le rfl⟩ ?_
          exact aw_zret (aw_d q_Sc_newName 38 rfl) rfl (rfl) (by rw [nn, if_neg (fun q => by rw [hx61] at q; cases q.2.2)]; exact CG_er (itC_bs hI hw (itOK_nil (k := 0))) CF_i)
      · refine aw_aload_n (aw_d q_Sc_newName 19 rfl) rfl rfl rfl ?_
        refine aw_aload_n (aw_d q_Sc_newName 20 rfl) rfl rfl rfl ?_
        refine aw_getf (v := .int (nI (p))) (aw_d q_Sc_newName 21 rfl) fL_Sc_32_Sc rfl (gk rfl) ?_
        refine cVr (aw_d q_Sc_newName 22 rfl) (sp_failAt) vL_Sc_99_Sc rfl rfl rfl rfl rfl rfl ⟨aw_le rfl, aw_le rfl⟩ ?_
        exact aw_zret (aw_d q_Sc_newName 23 rfl) rfl (rfl) (by rw [nn, if_neg (fun q => by have q1 := q.2.1; omega)]; exact CG_er (itC_bs hI hw (itOK_nil (k := 0))) CF_i)
    · refine aw_aload_n (aw_d q_Sc_newName 10 rfl) rfl rfl rfl ?_
      refine aw_aload_n (aw_d q_Sc_newName 11 rfl) rfl rfl rfl ?_
      refine aw_getf (v := .int (nI (p))) (aw_d q_Sc_newName 12 rfl) fL_Sc_32_Sc rfl (gk rfl) ?_
      refine cVr (aw_d q_Sc_newName 13 rfl) (sp_failAt) vL_Sc_99_Sc rfl rfl rfl rfl rfl rfl ⟨aw_le rfl, aw_le rfl⟩ ?_
      exact aw_zret (aw_d q_Sc_newName 14 rfl) rfl (rfl) (by rw [nn, if_neg (fun q => by have q1 := q.1; omega)]; exact CG_er (itC_bs hI hw (itOK_nil (k := 0))) CF_i)
set_option maxRecDepth 20000 in
theorem sp_nameBehind {g : aw_G} {S D : aw_S} {E0 : ts_T} {N : nm_T} {R : Nat} {s : sq_T} {n : Nat} {T : Nat → Int32} {p : Nat} {q w l k e z : Int32} {X : Nat → Int32} (hI : itC S E0 N R s D) (hc : TPc S n T) {lo : Nat} {x : Int32} (hx : x.toInt = (lo : Int) - 1) (hp : p ≤ n) : Sp g M_Sc_nameBehind 3 71 0 0 [.ref 26, .ref 18, .int x] (HP (QC D (nI p) q w l k e z X)) (fun r h => match rn T n N lo p with
  | .ok y => r = some (.int (nI y.2)) ∧ y.2 < N.1 ∧ lo ≤ y.2 ∧ y.1 ≤ n ∧ ∃ w l : Int32, h = HP (QC D (nI y.1) q w l k e z X)
  | .error u => r = some (.int (-1)) ∧ CF D u h) := by
  refine Sp.of rfl (aw_le rfl) ?_
  refine aw_aload_n (aw_d q_Sc_nameBehind 0 rfl) rfl rfl rfl ?_
  refine cVv (aw_d q_Sc_nameBehind 1 rfl) (sp_word (frC_TP hI.1 hc) hp) vL_Sc_96_Sc rfl rfl rfl rfl rfl rfl ⟨aw_le rfl, aw_le rfl⟩ ?_
  refine aw_aload_n (aw_d q_Sc_nameBehind 2 rfl) rfl rfl rfl ?_
  refine aw_aload_n (aw_d q_Sc_nameBehind 3 rfl) rfl rfl rfl ?_
  refine aw_getf (aw_d q_Sc_nameBehind 4 rfl) fL_Sc_9_Sc rfl rfl ?_
  refine aw_aload_n (aw_d q_Sc_nameBehind 5 rfl) rfl rfl rfl ?_
  refine aw_getf (v := .int (nI (p))) (aw_d q_Sc_nameBehind 6 rfl) fL_Sc_32_Sc rfl (gk rfl) ?_
  refine aw_aload_n (aw_d q_Sc_nameBehind 7 rfl) rfl rfl rfl ?_
  refine aw_getf (v := .int (nI ((we T n p - p)))) (aw_d q_Sc_nameBehind 8 rfl) fL_Sc_35_Sc rfl (gk rfl) ?_
  refine cV (aw_d q_Sc_nameBehind 9 rfl) (sp_findD hI hc (a := p) (len := we T n p - p) (by have := we_le (T := T) hp; omega)) vL_Sc_107_Tb rfl rfl rfl rfl rfl rfl ⟨aw_le rfl, aw_le rfl⟩ (fun r17 h17 hp17 => ?_)
  cases hx17 : nmF N T p (we T n p - p) with
  | none =>
    rw [hx17] at hp17
    obtain ⟨rfl, rfl⟩ := hp17
    refine aw_istore_n (aw_d q_Sc_nameBehind 10 rfl) rfl (aw_le rfl) rfl ?_
    refine aw_iload_n (aw_d q_Sc_nameBehind 11 rfl) rfl rfl ?_
    refine aw_iload_n (aw_d q_Sc_nameBehind 12 rfl) rfl rfl ?_
    refine aw_icmpZ_le (tgt := 28) (aw_d q_Sc_nameBehind 13 rfl) (by decide) (fun c23 => ?_) (fun c23 => by (have h1 : (oI none).toInt = -1 := rfl; omega))
    refine aw_aload_n (aw_d q_Sc_nameBehind 16 rfl) rfl rfl rfl ?_
    refine aw_aload_n (aw_d q_Sc_nameBehind 17 rfl) rfl rfl rfl ?_
    refine aw_getf (v := .int (nI (p))) (aw_d q_Sc_nameBehind 18 rfl) fL_Sc_32_Sc rfl (gk rfl) ?_
    refine cVr (aw_d q_Sc_nameBehind 19 rfl) (sp_failAt) vL_Sc_99_Sc rfl rfl rfl rfl rfl rfl ⟨aw_le rfl, aw_le rfl⟩ ?_
    refine aw_pop (aw_d q_Sc_nameBehind 20 rfl) rfl ?_
    refine aw_iconst (v := (-1)) (aw_d q_Sc_nameBehind 21 rfl) (by decide) ?_
    exact aw_iret (aw_d q_Sc_nameBehind 22 rfl) rfl (by rw [rn, hx17]; exact ⟨rfl, CF_i⟩)
  | some v17 =>
    rw [hx17] at hp17
    obtain ⟨rfl, rfl⟩ := hp17
    have hv17 := nmF_lt hx17
    refine aw_istore_n (aw_d q_Sc_nameBehind 10 rfl) rfl (aw_le rfl) rfl ?_
    refine aw_iload_n (aw_d q_Sc_nameBehind 11 rfl) rfl rfl ?_
    refine aw_iload_n (aw_d q_Sc_nameBehind 12 rfl) rfl rfl ?_
    refine aw_icmpJ_le (tgt := 28) (aw_d q_Sc_nameBehind 13 rfl) (by decide) (by (have hwe := we_le (T := T) hp; have hc2 := hc.2.1; have h6 := hI.2.1.2.1; omega)) (fun c23 => ?_) (fun c23 => ?_)
    · refine aw_aload_n (aw_d q_Sc_nameBehind 16 rfl) rfl rfl rfl ?_
      refine aw_aload_n (aw_d q_Sc_nameBehind 17 rfl) rfl rfl rfl ?_
      refine aw_getf (v := .int (nI (p))) (aw_d q_Sc_nameBehind 18 rfl) fL_Sc_32_Sc rfl (gk rfl) ?_
      refine cVr (aw_d q_Sc_nameBehind 19 rfl) (sp_failAt) vL_Sc_99_Sc rfl rfl rfl rfl rfl rfl ⟨aw_le rfl, aw_le rfl⟩ ?_
      refine aw_pop (aw_d q_Sc_nameBehind 20 rfl) rfl ?_
      refine aw_iconst (v := (-1)) (aw_d q_Sc_nameBehind 21 rfl) (by decide) ?_
      exact aw_iret (aw_d q_Sc_nameBehind 22 rfl) rfl (by simp only [rn, hx17]; rw [if_neg (by omega)]; exact ⟨by first | trivial | rfl, CF_i⟩)
    · refine aw_iload_n (aw_d q_Sc_nameBehind 14 rfl) rfl rfl ?_
      exact aw_iret (aw_d q_Sc_nameBehind 15 rfl) rfl (by simp only [rn, hx17]; rw [if_pos (by omega)]; exact ⟨by first | trivial | rfl, hv17, by omega, (we_le hp).2, _, _, rfl⟩)
theorem sp_number {g : aw_G} {S D : aw_S} {E0 : ts_T} {N : nm_T} {R : Nat} {s : sq_T} {p q w l k e : Int32} {f : Nat → Int32} {kd ex c0 : Nat} {L : List Int32} (hI : itC S E0 N R s D) (hw : tsW E0) (h60 : E0.1 ≤ 60) (hs : itOK s c0) (hc0 : c0 < 144) (hk : kd ≤ 4) (he : ex < 676) (hL : L.length ≤ 20) : Sp g M_Te_numberOf 3 69 0 0 [.ref 9, .int (nI kd), .int (nI ex), .ref 27] (HP (QC D p q w l k e (nI L.length) (XA L f))) (fun r h => r = some (.int (nI (tsI (fE E0 s).1 kd ex L).1)) ∧ ∃ F, teC F (tsI (fE E0 s).1 kd ex L).2 ∧ frT D F ∧ h = HP (QC F p q w l k e (nI L.length) (XA L f))) := by
  have hW := fE_W hw hs
  have hT : TeI (QC D p q w l k e (nI L.length) (XA L f)) (fE E0 s).1.1 (fE E0 s).1.2.2.2.1 := teC_T hI.2.2.2.1 hW
  have hF : fdB (tmB ((QC D p q w l k e (nI L.length) (XA L f)).2 10) ((QC D p q w l k e (nI L.length) (XA L f)).2 11) ((QC D p q w l k e (nI L.length) (XA L f)).2 12) ((QC D p q w l k e (nI L.length) (XA L f)).2 13) (nI kd) (nI ex) L.length ((QC D p q w l k e (nI L.length) (XA L f)).2 28)) (fE E0 s).1.1 0 = tsF (fE E0 s).1 kd ex L := teC_find hI.2.2.2.1 hW hk he hL
  cases hx : tsF (fE E0 s).1 kd ex L with
  | some t =>
    rw [hx] at hF
    have q1 := sp_Te_numberOfS_27 (g := g) hT (n := L.length) rfl hL hF
    rw [show tsI (fE E0 s).1 kd ex L = (t, (fE E0 s).1) by simp only [tsI, hx]]
    exact Sp.imp q1 (fun r h hr => ⟨hr.1, D, hI.2.2.2.1, frT_rf, hr.2⟩)
  | none =>
    rw [hx] at hF
    have q1 := sp_Te_numberOfN_27 (g := g) hT (n := L.length) rfl hL hF (itC_tm hI h60 hs hc0)
    rw [show tsI (fE E0 s).1 kd ex L = ((fE E0 s).1.1, tsA (fE E0 s).1 kd ex L) by simp only [tsI, hx]]
    refine Sp.imp q1 (fun r h hr => ?_)
    obtain ⟨h1, BD, h2, b1, b2⟩ := hr
    refine ⟨h1, _, teC_add hI.2.2.2.1 hW (BD := BD) (itC_tm hI h60 hs hc0) (fun i hi => (b1 i hi).trans (if_pos hi)) b2, frT_add, ?_⟩
    rw [h2, QC_sa (by decide), QC_sa (by decide), QC_sa (by decide), QC_sa (by decide), QC_si (by decide)]
    rfl
theorem sp_setD {g : aw_G} {S D F : aw_S} {E0 : ts_T} {N : nm_T} {R : Nat} {s : sq_T} {p q w l k e z : Int32} {X : Nat → Int32} {r v : Nat} {kd ex : Nat} {L : List Int32} (hI : itC S E0 N R s D) (ht : teC F (tsI (fE E0 s).1 kd ex L).2) (hf : frT D F) (hr : r < 24) (hv : v < 6) : Sp g M_Tb_setCell 1 21 0 0 [.ref 18, .int (nI r), .int (nI v), .int (nI (tsI (fE E0 s).1 kd ex L).1)] (HP (QC F p q w l k e z X)) (fun x h => x = none ∧ ∃ G, itC S E0 N R (s ++ [(r * 6 + v, kd, ex, L)]) G ∧ h = HP (QC G p q w l k e z X)) := by
  have q1 := sp_Tb_setCell_18 (g := g) (S := QC F p q w l k e z X) (r := r) (v := v) (t := nI (tsI (fE E0 s).1 kd ex L).1) hr hv
  refine Sp.imp q1 (fun x h hx => ⟨hx.1, _, itC_put (k := r * 6 + v) hI ht hf, ?_⟩)
  rw [hx.2, QC_sa (by decide)]
  rfl
theorem sp_rowD {g : aw_G} {S D : aw_S} {E0 : ts_T} {N : nm_T} {R : Nat} {s : sq_T} {p q w l k e z : Int32} {X : Nat → Int32} (hI : itC S E0 N R s D) (hs : itOK s (R * 6)) (h24 : R < 24) : Sp g M_Tb_addRow 2 44 0 0 [.ref 18] (HP (QC D p q w l k e z X)) (fun x h => x = some (.int (nI R)) ∧ ∃ G, itC S E0 N (R + 1) s G ∧ h = HP (QC G p q w l k e z X)) := by
  have q1 := sp_Tb_addRow_18 (g := g) (S := QC D p q w l k e z X) (nv := N.1) (nr := R) (nl := N.2.1) (nmC_T hI.2.1 hI.2.2.1.1 hI.2.2.1.2) h24
  refine Sp.imp q1 (fun x h hx => ?_)
  obtain ⟨h1, CD, h2, b1, b2⟩ := hx
  refine ⟨h1, _, itC_row hI hs h24 b1 b2, ?_⟩
  rw [h2, QC_si (by decide), QC_sa (by decide)]
