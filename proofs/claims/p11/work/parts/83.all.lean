/-! ===== all calls ===== -/
section All
variable {s u n : Nat → Int32} {a c d : Nat → List Int32} {q : List (Option Nat)} {h : Nat} {z : mc_W} {t3 t4 t5 : List Int32} {T N : Nat}
theorem JV.cs (J : JV s a q c t3 t4 t5 d z T N) : yC s := J.1.1
theorem JV.ks (J : JV s a q c t3 t4 t5 d z T N) : xK s a := J.1.2.1
theorem JV.bs (J : JV s a q c t3 t4 t5 d z T N) : 2 ≤ (s 0).toInt ∧ (s 0).toInt ≤ 12 := J.1.2.2.2.1
theorem JV.reach (J : JV s a q c t3 t4 t5 d z T N) {R : List Int32} (hR : R.length = 6) : xC (mc_up c 1 R) := by
  have := J.xc
  exact ⟨this.1, hR, this.2.2.1, this.2.2.2.1, this.2.2.2.2.1, this.2.2.2.2.2⟩
theorem ops_all (J : JV s a q c t3 t4 t5 d z T N) : OPS False (WW s a q u c h (Ms s) (Bs s a t3 t4 t5) n d z) IV :=
  ⟨fun a1 => jI_D sp_x_count (D_iv J rfl rfl J.xc sp_y_count) (fun _ => rfl),
  fun a1 a2 => jI_D sp_x_set (D_iv J.set eq_set.1.symm eq_setB.symm J.xc sp_y_set) (fun _ => rfl),
  fun a1 a2 a3 a4 a5 a6 => op_feed J a1 a2 a3 a4 a5 a6,
  op_text J,
  fun a1 => jI_D sp_x_force (D_iv J.force eq_force.symm eq_forceB.symm J.xc sp_y_force) (fun _ => rfl),
  fun a1 a2 a3 a4 => jI_P (sp_x_asks J.ok) (fun u1 k1 h1 hk => T_iva J rfl rfl hk (sp_y_asks J.L J.C J.V J.D)) (fun q => False.elim q),
  fun a1 a2 => jI_D (sp_x_clerk J.xl J.cs) (D_iv J.clerk (eq_clerk (a := a) (t3 := t3) (t4 := t4) (t5 := t5)).1.symm eq_clerk.2.1.symm J.xc (sp_y_clerk J.L J.C)) (fun _ => (eq_clerk (a := a) (t3 := t3) (t4 := t4) (t5 := t5)).2.2),
  fun a1 a2 => jI_P (sp_x_told J.ok) (fun u1 k1 h1 hk => D_iv J rfl rfl hk (sp_y_told J.L J.C)) (fun _ => eq_told.symm),
  fun a1 a2 a3 => jI_P (sp_x_figure J.ok) (fun u1 k1 h1 hk => T_iv J rfl rfl hk (sp_y_figure J.G J.D)) (fun _ => eq_figure.symm),
  fun a1 a2 => jL_P (sp_x_readsC J.ok) (fun u1 k1 h1 hk => T_iv J rfl rfl hk (sp_y_reads J.G J.D)) (fun _ => eq_reads.symm),
  fun a1 a2 => jL_P (sp_x_plain J.ok) (fun u1 k1 h1 hk => T_iv J rfl rfl hk (sp_y_plain J.G J.D)) (fun _ => eq_plain.symm),
  fun a1 a2 a3 => jL_P (sp_x_adds J.ok) (fun u1 k1 h1 hk => T_iv J rfl rfl hk (sp_y_adds J.G J.D)) (fun _ => eq_adds.symm),
  fun a1 a2 a3 => jI_P (sp_x_apart J.ok) (fun u1 k1 h1 hk => T_iv J rfl rfl hk (sp_y_apart J.G J.D)) (fun _ => (eq_apart J.cs J.mo).symm),
  fun a1 a2 a3 => (wi_cases a1).elim (fun hv => jL_D (sp_x_book0 hv) (T_iv J rfl rfl J.xc (sp_y_book J.G J.Sh J.D)) (fun _ => (ybook_no hv).symm)) (fun ⟨k, hk, e⟩ => by subst e; exact jL_P (sp_x_book hk J.S J.ok) (fun u1 k1 h1 hk => T_iv J rfl rfl hk (sp_y_book J.G J.Sh J.D)) (fun _ => (eq_book hk J.xl J.S J.cs J.mo).symm)),
  fun a1 a2 => (wi_cases a1).elim (fun hv => jL_D (sp_x_who0 hv) (T_iv J rfl rfl J.xc (sp_y_who J.G J.Sh J.D)) (fun _ => (ywho_no hv).symm)) (fun ⟨k, hk, e⟩ => by subst e; exact jL_P (sp_x_who hk J.S J.ok) (fun u1 k1 h1 hk => T_iv J rfl rfl hk (sp_y_who J.G J.Sh J.D)) (fun _ => (eq_who hk J.xl J.S J.cs J.mo).symm)),
  fun a1 a2 a3 => (wi_cases a1).elim (fun hv => jL_D (sp_x_smug0 hv) (T_iv J rfl rfl J.xc (sp_y_smuggled J.G J.Sh J.D)) (fun _ => (ysm_no hv).symm)) (fun ⟨k, hk, e⟩ => by subst e; exact jL_P (sp_x_smug hk J.S J.ok) (fun u1 k1 h1 hk => T_iv J rfl rfl hk (sp_y_smuggled J.G J.Sh J.D)) (fun _ => (eq_smug hk J.xl J.S J.cs J.mo).symm)),
  fun a1 a2 a3 => jL_P (sp_x_slip J.ok) (fun u1 k1 h1 hk => T_iv J rfl rfl hk (sp_y_slip J.G J.D)) (fun _ => (eq_slip J.cs J.bs J.mo).symm),
  fun a1 a2 => jL_P (sp_x_sure J.ok) (fun u1 k1 h1 hk => T_iv J rfl rfl hk (sp_y_sure J.G J.D)) (fun _ => eq_sure.symm),
  fun a1 a2 a3 => (wi_cases a1).elim (fun hv => jI_D (sp_x_short0 hv) (T_iv J rfl rfl J.xc (sp_y_shortest J.G J.Sh J.D)) (fun _ => (yshort_no hv).symm)) (fun ⟨k, hk, e⟩ => by subst e; exact jI_P (sp_x_short hk J.S J.ok) (fun u1 k1 h1 hk => T_iv J rfl rfl hk (sp_y_shortest J.G J.Sh J.D)) (fun _ => (eq_short hk J.xl J.S).symm)),
  fun a1 a2 a3 => jI_D (sp_x_lend J.xl.2.2.2.1) (D_iv J.lend rfl eq_lend.symm J.xc (sp_y_lend J.L)) (fun _ => rfl),
  fun a1 a2 => jI_D (sp_x_debt J.xl.2.2.2.1) (D_iv J rfl rfl J.xc (sp_y_debt J.L)) (fun _ => rfl),
  fun a1 a2 a3 => jI_P (sp_x_pay J.ok) (fun u1 k1 h1 hk => T_ivd J.pay rfl (eq_pay J.O).2 hk (sp_y_pay J.G J.D)) (fun _ => (eq_pay J.O).1.symm),
  jI_D (sp_x_rings J.xl.2.2.2.1 J.xc.2.1) (D_iv J rfl rfl (J.reach (by rw [xreach_len]; exact J.xc.2.1)) (sp_y_rings J.L)) (fun _ => eq_rings J.xc.2.1),
  jI_D (sp_x_clear J.xl.2.2.2.1) (D_iv (J.a3 (eq_clear J.O).2) rfl (by rw [Bs_3, (eq_clear J.O).1]; rfl) J.xc (sp_y_clear J.L)) (fun _ => by rw [(eq_clear J.O).1]; rfl),
  fun a1 => op_forgive J a1,
  fun a1 a2 => jI_D sp_x_span (D_iv J rfl rfl J.xc sp_y_span) (fun _ => rfl),
  fun a1 a2 => jI_D sp_x_behind (D_iv J rfl rfl J.xc sp_y_behind) (fun _ => rfl),
  fun a1 a2 a3 => jI_P (sp_x_alike J.yr J.ok) (fun u1 k1 h1 hk => T_iv J rfl rfl hk (sp_y_alike J.G J.yr J.D)) (fun _ => eq_alike.symm),
  fun a1 a2 => (wi_cases a1).elim (fun hv => jI_D (sp_x_judge0 hv) (T_iv J rfl rfl J.xc (sp_y_judge J.G J.Sh J.D)) (fun _ => (yjudge_no hv).symm)) (fun ⟨k, hk, e⟩ => by subst e; exact jI_P (sp_x_judge hk J.S J.ok) (fun u1 k1 h1 hk => T_iv J rfl rfl hk (sp_y_judge J.G J.Sh J.D)) (fun _ => (eq_judge hk J.xl J.S).symm)),
  fun a1 a2 a3 => (wi_cases a1).elim (fun hv => jI_D (sp_x_kinds0 hv) (T_iv J rfl rfl J.xc (sp_y_kinds J.G J.Sh J.D)) (fun _ => (ykinds_no hv).symm)) (fun ⟨k, hk, e⟩ => by subst e; exact jI_P (sp_x_kinds hk J.S J.ok) (fun u1 k1 h1 hk => T_iv J rfl rfl hk (sp_y_kinds J.G J.Sh J.D)) (fun _ => (eq_kinds hk J.xl J.S J.cs).symm)),
  fun a1 => (wi_cases a1).elim (fun hv => jI_D (sp_x_whose0 hv) (T_iv J rfl rfl J.xc (sp_y_whose J.G J.Sh J.D)) (fun _ => (ywhose_no hv).symm)) (fun ⟨k, hk, e⟩ => by subst e; exact jI_P (sp_x_whose hk J.S J.ok) (fun u1 k1 h1 hk => T_iv J rfl rfl hk (sp_y_whose J.G J.Sh J.D)) (fun _ => (eq_whose hk J.xl J.S).symm)),
  fun a1 a2 => (wi_cases a1).elim (fun hv => jI_D (sp_x_laws0 hv) (T_iv J rfl rfl J.xc (sp_y_laws J.G J.Sh J.D)) (fun _ => (ylaws_no hv).symm)) (fun ⟨k, hk, e⟩ => by subst e; exact jI_P (sp_x_laws hk J.S J.T1.1 J.ok) (fun u1 k1 h1 hk => T_iv J rfl rfl hk (sp_y_laws J.G J.Sh J.D)) (fun _ => (eq_laws hk J.xl J.S (fun t _ => rfl) J.T1.1 J.T1.2.2).symm)),
  fun a1 a2 a3 a4 => (wi_cases a1).elim (fun hv => jI_D (sp_x_film0 hv) (T_iv J rfl (yfmb_no hv) J.xc (sp_y_film J.G J.D)) (fun _ => (yfm1_no hv).symm)) (fun ⟨k, hk, e⟩ => by subst e; exact jI_P (sp_x_film hk J.ok) (fun u1 k1 h1 hk1 => T_iv (J.film hk) (eq_film (t3 := t3) (t4 := t4) (t5 := t5) hk J.xl).2.1.symm (eq_film hk J.xl).2.2 hk1 (sp_y_film J.G J.D)) (fun _ => (eq_film (t3 := t3) (t4 := t4) (t5 := t5) hk J.xl).1.symm)),
  fun a1 a2 a3 => jL_P (sp_x_drawn J.ok) (fun u1 k1 h1 hk => T_iv J rfl rfl hk (sp_y_drawn J.G J.D)) (fun _ => eq_drawn.symm),
  fun a1 a2 a3 a4 a5 => jL_P (sp_x_odds J.ok) (fun u1 k1 h1 hk => T_iv J rfl rfl hk (sp_y_odds J.G J.D)) (fun _ => eq_odds.symm),
  jI_D (sp_x_image J.xl) (D_iv J.image (eq_image (t3 := t3) (t4 := t4) (t5 := t5) (a := a)).1.symm eq_image.2.symm J.xc (sp_y_image J.L)) (fun _ => rfl),
  jI_D (sp_x_back J.xl (J.2.1.imp id (fun q => q.1))) (D_iv J.back (eq_back (t3 := t3) (t4 := t4) (t5 := t5) (a := a)).1.symm eq_back.2.1.symm J.xc (sp_y_back J.L)) (fun _ => (eq_back (t3 := t3) (t4 := t4) (t5 := t5) (a := a)).2.2),
  fun a1 a2 a3 => jI_D (sp_x_sheet J.xl) (D_iv J.sheet (eq_sheet (t3 := t3) (t4 := t4) (t5 := t5) J.xl).2.symm (eq_sheet J.xl).1.symm J.xc (sp_y_sheet J.L)) (fun _ => rfl),
  fun a1 a2 a3 => (wi_cases a1).elim (fun hv => jI_D (sp_x_cell0 hv) (D_iv J rfl (yclb_no hv) J.xc (sp_y_cell J.L J.Sh)) (fun _ => (ycl1_no hv).symm)) (fun ⟨k, hk, e⟩ => by subst e; exact jI_D (sp_x_cell hk J.xl) (D_iv (J.cell hk) rfl (eq_cell hk J.xl J.S).2 J.xc (sp_y_cell J.L J.Sh)) (fun _ => (eq_cell (t3 := t3) (t4 := t4) (t5 := t5) (v := a3) hk J.xl J.S).1.symm)),
  fun a1 a2 a3 a4 a5 => (wi_cases a1).elim (fun hv => jI_D (sp_x_copy0 (by rw [hv]; rfl)) (D_iv J rfl (ycy1_no (by rw [hv]; rfl)).2 J.xc (sp_y_copy J.L J.Sh)) (fun _ => (ycy1_no (by rw [hv]; rfl)).1.symm)) (fun ⟨k, hk, e⟩ => by subst e; exact (wi_cases a3).elim (fun hv => jI_D (sp_x_copy0 (by rw [hv, Bool.and_false])) (D_iv J rfl (ycy1_no (by rw [hv, Bool.and_false])).2 J.xc (sp_y_copy J.L J.Sh)) (fun _ => (ycy1_no (by rw [hv, Bool.and_false])).1.symm)) (fun ⟨p, hp, e⟩ => by subst e; exact jI_D (sp_x_copy hk hp J.xl J.S) (D_iv (J.copy hp) rfl (eq_copy hk hp J.xl J.S).2 J.xc (sp_y_copy J.L J.Sh)) (fun _ => (eq_copy (t3 := t3) (t4 := t4) (t5 := t5) hk hp J.xl J.S).1.symm))),
  fun a1 a2 a3 a4 => (wi_cases a1).elim (fun hv => jI_D (sp_x_clerksBy0 hv) (D_iv J (by rw [ycby_no hv]) (by rw [ycby_no hv]) J.xc (sp_y_clerksBy J.L J.C J.Sh)) (fun _ => by rw [ycby_no hv])) (fun ⟨k, hk, e⟩ => by subst e; exact jI_D (sp_x_clerksBy hk J.xl J.cs) (D_iv J.cby (by rw [eq_cby hk J.xl J.S]) (by rw [eq_cby hk J.xl J.S]) J.xc (sp_y_clerksBy J.L J.C J.Sh)) (fun _ => by rw [eq_cby hk J.xl J.S])),
  fun a1 a2 => jI_D (sp_x_taken J.xl J.cs J.ks) (D_iv J rfl rfl J.xc (sp_y_taken J.L)) (fun _ => eq_taken J.cs J.ks)⟩
theorem ops_iv (w : mc_W) (hw : IV w) : OPS False w IV := by
  obtain ⟨s, a, q, u, c, h, t3, t4, t5, n, d, z, T, N, rfl, J⟩ := hw
  exact ops_all J
end All
