/-! the next word, number or sign, done -/
theorem yda_k (T : Nat → Int32) (N : Nat) : ∀ f p k v, p ≤ N → (yda T N f p k v).2.1 ≤ k + f ∧ p ≤ (yda T N f p k v).1 ∧ (yda T N f p k v).1 ≤ N := by
  intro f
  induction f with
  | zero => intro p k v h; exact ⟨Nat.le_refl _, Nat.le_refl _, h⟩
  | succ f ih =>
    intro p k v h
    unfold yda
    split
    · have := ih (p + 1) (k + 1) (if k < 4 then 10 * v + T p - 48 else 0) (by omega); omega
    · exact ⟨by show k ≤ _; omega, Nat.le_refl _, h⟩
theorem lp_y_nxd {s u m n : Nat → Int32} {a c b d : Nat → List Int32} {q : List (Option Nat)} {h : Nat} {z : mc_W} {p e k : Nat} {v : Int32} {R : Nat × Nat × Int32 × Int32} {x1 : Option Value} (hk2 : k ≤ 160)
    (hR : R = (p, e, (if 4 < k then -1 else 1), v)) {n0 : Nat → Int32} (h0 : n0 0 = nI e) (h1 : n0 1 = nI p) (h3 : n0 3 = v) (hk : yK n n0) :
    mc_E RX7 cX7_next 3 (mc_JM none false 2 0 0 (fun r' w' => r' = none ∧ ∃ n1, yNx R n n1 ∧ w' = WW s a q u c h m b n1 d z)) 309 [some (.ref 29), x1, some (.int (nI k))] [] (WW s a q u c h m b n0 d z) 0 0 := by
  have k4 : nI k ≤ 4 ↔ ¬ 4 < k := by
    rw [Int32.le_iff_toInt_le, nI_toInt (by omega), show (4 : Int32).toInt = 4 from rfl]; omega
  subst hR
  refine e_aloadn (pc := 309) dX7_next_309 rfl ?_
  refine e_iloadn (pc := 310) dX7_next_310 rfl ?_
  refine e_iconst (v := 4) (pc := 311) dX7_next_311 (by decide) ?_
  refine e_icmp_le (pc := 312) dX7_next_312 (t := 319) (by decide) (fun c_312 => ?_) (fun c_312 => ?_)
  · skip
    refine e_iconst (v := 1) (pc := 319) dX7_next_319 (by decide) ?_
    refine put_y_token (pc := 320) dX7_next_320 pX7_99 ?_
    refine e_goto (pc := 323) dX7_next_323 (t := 403) (by decide) ?_
    exact e_vret (pc := 403) dX7_next_403 rfl (Nat.le_refl _) (Nat.le_refl _) (by refine ⟨rfl, _, ?_, rfl⟩; exact ⟨h0, h1, by show _ = (if 4 < k then (-1 : Int32) else 1); rw [if_neg (k4.mp c_312)]; rfl, h3, yK_up hk (by decide)⟩)
  · skip
    refine e_iconst (v := -1) (pc := 315) dX7_next_315 (by decide) ?_
    refine e_goto (pc := 316) dX7_next_316 (t := 320) (by decide) ?_
    refine put_y_token (pc := 320) dX7_next_320 pX7_99 ?_
    refine e_goto (pc := 323) dX7_next_323 (t := 403) (by decide) ?_
    exact e_vret (pc := 403) dX7_next_403 rfl (Nat.le_refl _) (Nat.le_refl _) (by refine ⟨rfl, _, ?_, rfl⟩; exact ⟨h0, h1, by show _ = (if 4 < k then (-1 : Int32) else 1); rw [if_pos (Classical.not_not.mp (fun q => c_312 (k4.mpr q)))]; rfl, h3, yK_up hk (by decide)⟩)
theorem sp_y_next {s u m n : Nat → Int32} {a c b d : Nat → List Int32} {q : List (Option Nat)} {h : Nat} {z : mc_W} {N A0 : Nat} (hL : yL b) (hN : m 3 = nI N) (hN2 : N ≤ 160) (hA : A0 ≤ N) (h0 : n 0 = nI A0) : mc_T yX7_next cX7_next 3 none 2 [.ref 29] (WW s a q u c h m b n d z) none (fun w' => ∃ n1, yNx (ynx (yt3 b) N A0) n n1 ∧ w' = WW s a q u c h m b n1 d z) := by
  refine mc_start (own := RX7) (ini := false) rfl (by decide +kernel) (fun h => by cases h) (Nat.le_of_ble_eq_true rfl) ?_
  show mc_E _ _ _ _ _ [some (.ref 29), none, none] [] _ _ _
  refine lp_y_ws (n0 := n) (P := yws (yt3 b) N (N - A0) A0) hL hN hN2 (fun n1 g0 gk => ?_) (N - A0) A0 n (by omega) h0 (fun _ _ => rfl) rfl
  obtain ⟨p1, p2⟩ := yws_le (yt3 b) N (N - A0) A0 hA
  have r1 : yws (yt3 b) N (N - A0) A0 = N → ynx (yt3 b) N A0 = (N, N, 0, 0) := fun q => by unfold ynx; rw [if_pos q]
  obtain ⟨P, hP⟩ : ∃ P, P = yws (yt3 b) N (N - A0) A0 := ⟨_, rfl⟩
  have r2 : ¬ P = N → mc_wi (yt3 b P) 97 122 = true → ynx (yt3 b) N A0 = (P, ylt (yt3 b) N (N - P) P, ynk (ywo (yt3 b) P (ylt (yt3 b) N (N - P) P) 12 0), ynv (ywo (yt3 b) P (ylt (yt3 b) N (N - P) P) 12 0)) := fun q1 q2 => by
    unfold ynx; rw [← hP, if_neg q1, if_pos q2]
  have r3 : ¬ P = N → ¬ mc_wi (yt3 b P) 97 122 = true → mc_wi (yt3 b P) 48 57 = true → ynx (yt3 b) N A0 = (P, (yda (yt3 b) N (N - P) P 0 0).1, (if 4 < (yda (yt3 b) N (N - P) P 0 0).2.1 then -1 else 1), (yda (yt3 b) N (N - P) P 0 0).2.2) := fun q1 q2 q3 => by
    unfold ynx; rw [← hP, if_neg q1, if_neg q2, if_pos q3]
  have r4 : ¬ P = N → ¬ mc_wi (yt3 b P) 97 122 = true → ¬ mc_wi (yt3 b P) 48 57 = true → ynx (yt3 b) N A0 = (P, P + 1, (if ysgn (yt3 b P) = true then yt3 b P else -1), 0) := fun q1 q2 q3 => by
    unfold ynx; rw [← hP, if_neg q1, if_neg q2, if_neg q3]
  rw [← hP] at g0 p1 p2 r1
  have iv : ¬ P = N → vp_in (nI P) (b 3).length := fun w => by rw [hL.2.2.2.1]; exact vp_in_nI (by omega) (by decide)
  have et : (b 3).getD (nI P).toNatClampNeg 0 = yt3 b P := by rw [nIc (by omega)]; rfl
  have pn : nI P = nI N ↔ P = N := nI_eq (by omega) (by omega)
  have hne : ¬ nI P = nI N → ¬ P = N := fun q w => q (pn.mpr w)
  refine e_aloadn (pc := 52) dX7_next_52 rfl ?_
  refine e_aloadn (pc := 53) dX7_next_53 rfl ?_
  refine e_get (pc := 54) dX7_next_54 fX7_93 rfl rfl ?_
  refine e_top (g0) ?_
  refine put_y_begun (pc := 57) dX7_next_57 pX7_96 ?_
  refine e_aloadn (pc := 60) dX7_next_60 rfl ?_
  refine e_iconst (v := 0) (pc := 61) dX7_next_61 (by decide) ?_
  refine put_y_token (pc := 62) dX7_next_62 pX7_99 ?_
  refine e_aloadn (pc := 65) dX7_next_65 rfl ?_
  refine e_iconst (v := 0) (pc := 66) dX7_next_66 (by decide) ?_
  refine put_y_value (pc := 67) dX7_next_67 pX7_102 ?_
  refine e_aloadn (pc := 70) dX7_next_70 rfl ?_
  refine e_get (pc := 71) dX7_next_71 fX7_93 rfl rfl ?_
  refine e_top (g0) ?_
  refine e_aloadn (pc := 74) dX7_next_74 rfl ?_
  refine e_get (pc := 75) dX7_next_75 fX7_65 rfl rfl ?_
  refine e_top (hN) ?_
  refine e_icmp_ne (pc := 78) dX7_next_78 (t := 82) (by decide) (fun c_78 => ?_) (fun c_78 => ?_)
  · skip
    refine e_aloadn (pc := 82) dX7_next_82 rfl ?_
    refine e_get (pc := 83) dX7_next_83 fX7_26 rfl rfl ?_
    refine e_aloadn (pc := 86) dX7_next_86 rfl ?_
    refine e_get (pc := 87) dX7_next_87 fX7_93 rfl rfl ?_
    refine e_top (g0) ?_
    refine aldv_ytape (pc := 90) dX7_next_90 (iv (hne c_78)) et ?_
    refine e_isn1 (pc := 91) dX7_next_91 (Nat.le_of_ble_eq_true rfl) rfl ?_
    refine e_iloadn (pc := 92) dX7_next_92 rfl ?_
    refine e_bipush (v := 97) (pc := 93) dX7_next_93 (by decide) ?_
    refine e_bipush (v := 122) (pc := 95) dX7_next_95 (by decide) ?_
    refine e_csD (pc := 97) (sp_y_in) dX7_next_97 kX7_75 rfl rfl (mc_CR_of (Nat.le_of_ble_eq_true rfl) (Nat.le_of_ble_eq_true rfl) (Nat.le_refl _) (Nat.le_refl _)) (Nat.le_of_ble_eq_true rfl) ?_
    refine e_if_eq (pc := 100) dX7_next_100 (t := 217) (by decide) (fun c_100 => ?_) (fun c_100 => ?_)
    · skip
      refine e_iloadn (pc := 217) dX7_next_217 rfl ?_
      refine e_bipush (v := 48) (pc := 218) dX7_next_218 (by decide) ?_
      refine e_bipush (v := 57) (pc := 220) dX7_next_220 (by decide) ?_
      refine e_csD (pc := 222) (sp_y_in) dX7_next_222 kX7_75 rfl rfl (mc_CR_of (Nat.le_of_ble_eq_true rfl) (Nat.le_of_ble_eq_true rfl) (Nat.le_refl _) (Nat.le_refl _)) (Nat.le_of_ble_eq_true rfl) ?_
      refine e_if_eq (pc := 225) dX7_next_225 (t := 326) (by decide) (fun c_225 => ?_) (fun c_225 => ?_)
      · skip
        refine e_iloadn (pc := 326) dX7_next_326 rfl ?_
        refine e_bipush (v := 40) (pc := 327) dX7_next_327 (by decide) ?_
        refine e_icmp_eq (pc := 329) dX7_next_329 (t := 374) (by decide) (fun c_329 => ?_) (fun c_329 => ?_)
        · skip
          refine e_iconst (v := 1) (pc := 374) dX7_next_374 (by decide) ?_
          refine e_goto (pc := 375) dX7_next_375 (t := 379) (by decide) ?_
          refine e_isn2 (pc := 379) dX7_next_379 (Nat.le_of_ble_eq_true rfl) rfl ?_
          refine e_aloadn (pc := 380) dX7_next_380 rfl ?_
          refine e_iloadn (pc := 381) dX7_next_381 rfl ?_
          refine e_if_eq (pc := 382) dX7_next_382 (t := 389) (by decide) (fun c_382 => absurd c_382 (by decide)) (fun _ => ?_)
          refine e_iloadn (pc := 385) dX7_next_385 rfl ?_
          refine e_goto (pc := 386) dX7_next_386 (t := 390) (by decide) ?_
          refine put_y_token (pc := 390) dX7_next_390 pX7_99 ?_
          refine e_aloadn (pc := 393) dX7_next_393 rfl ?_
          refine e_dup (pc := 394) dX7_next_394 rfl ?_
          refine e_get (pc := 395) dX7_next_395 fX7_93 rfl rfl ?_
          refine e_top (g0) ?_
          refine e_iconst (v := 1) (pc := 398) dX7_next_398 (by decide) ?_
          refine e_iadd (pc := 399) dX7_next_399 ?_
          refine e_top ((nI_1 P)) ?_
          refine put_y_at (pc := 400) dX7_next_400 pX7_93 ?_
          exact e_vret (pc := 403) dX7_next_403 rfl (Nat.le_refl _) (Nat.le_refl _) (by rw [r4 (hne c_78) (nbt (mc_b0.mp c_100)) (nbt (mc_b0.mp c_225))]; refine ⟨rfl, _, ?_, rfl⟩; exact ⟨rfl, rfl, by show _ = (if ysgn (yt3 b P) = true then yt3 b P else (-1 : Int32)); rw [if_pos (by simp [ysgn, c_329])]; rfl, rfl, yK_up (yK_up (yK_up (yK_up (yK_up gk (by decide)) (by decide)) (by decide)) (by decide)) (by decide)⟩)
        · skip
          refine e_iloadn (pc := 332) dX7_next_332 rfl ?_
          refine e_bipush (v := 41) (pc := 333) dX7_next_333 (by decide) ?_
          refine e_icmp_eq (pc := 335) dX7_next_335 (t := 374) (by decide) (fun c_335 => ?_) (fun c_335 => ?_)
          · skip
            refine e_iconst (v := 1) (pc := 374) dX7_next_374 (by decide) ?_
            refine e_goto (pc := 375) dX7_next_375 (t := 379) (by decide) ?_
            refine e_isn2 (pc := 379) dX7_next_379 (Nat.le_of_ble_eq_true rfl) rfl ?_
            refine e_aloadn (pc := 380) dX7_next_380 rfl ?_
            refine e_iloadn (pc := 381) dX7_next_381 rfl ?_
            refine e_if_eq (pc := 382) dX7_next_382 (t := 389) (by decide) (fun c_382 => absurd c_382 (by decide)) (fun _ => ?_)
            refine e_iloadn (pc := 385) dX7_next_385 rfl ?_
            refine e_goto (pc := 386) dX7_next_386 (t := 390) (by decide) ?_
            refine put_y_token (pc := 390) dX7_next_390 pX7_99 ?_
            refine e_aloadn (pc := 393) dX7_next_393 rfl ?_
            refine e_dup (pc := 394) dX7_next_394 rfl ?_
            refine e_get (pc := 395) dX7_next_395 fX7_93 rfl rfl ?_
            refine e_top (g0) ?_
            refine e_iconst (v := 1) (pc := 398) dX7_next_398 (by decide) ?_
            refine e_iadd (pc := 399) dX7_next_399 ?_
            refine e_top ((nI_1 P)) ?_
            refine put_y_at (pc := 400) dX7_next_400 pX7_93 ?_
            exact e_vret (pc := 403) dX7_next_403 rfl (Nat.le_refl _) (Nat.le_refl _) (by rw [r4 (hne c_78) (nbt (mc_b0.mp c_100)) (nbt (mc_b0.mp c_225))]; refine ⟨rfl, _, ?_, rfl⟩; exact ⟨rfl, rfl, by show _ = (if ysgn (yt3 b P) = true then yt3 b P else (-1 : Int32)); rw [if_pos (by simp [ysgn, c_335])]; rfl, rfl, yK_up (yK_up (yK_up (yK_up (yK_up gk (by decide)) (by decide)) (by decide)) (by decide)) (by decide)⟩)
          · skip
            refine e_iloadn (pc := 338) dX7_next_338 rfl ?_
            refine e_bipush (v := 59) (pc := 339) dX7_next_339 (by decide) ?_
            refine e_icmp_eq (pc := 341) dX7_next_341 (t := 374) (by decide) (fun c_341 => ?_) (fun c_341 => ?_)
            · skip
              refine e_iconst (v := 1) (pc := 374) dX7_next_374 (by decide) ?_
              refine e_goto (pc := 375) dX7_next_375 (t := 379) (by decide) ?_
              refine e_isn2 (pc := 379) dX7_next_379 (Nat.le_of_ble_eq_true rfl) rfl ?_
              refine e_aloadn (pc := 380) dX7_next_380 rfl ?_
              refine e_iloadn (pc := 381) dX7_next_381 rfl ?_
              refine e_if_eq (pc := 382) dX7_next_382 (t := 389) (by decide) (fun c_382 => absurd c_382 (by decide)) (fun _ => ?_)
              refine e_iloadn (pc := 385) dX7_next_385 rfl ?_
              refine e_goto (pc := 386) dX7_next_386 (t := 390) (by decide) ?_
              refine put_y_token (pc := 390) dX7_next_390 pX7_99 ?_
              refine e_aloadn (pc := 393) dX7_next_393 rfl ?_
              refine e_dup (pc := 394) dX7_next_394 rfl ?_
              refine e_get (pc := 395) dX7_next_395 fX7_93 rfl rfl ?_
              refine e_top (g0) ?_
              refine e_iconst (v := 1) (pc := 398) dX7_next_398 (by decide) ?_
              refine e_iadd (pc := 399) dX7_next_399 ?_
              refine e_top ((nI_1 P)) ?_
              refine put_y_at (pc := 400) dX7_next_400 pX7_93 ?_
              exact e_vret (pc := 403) dX7_next_403 rfl (Nat.le_refl _) (Nat.le_refl _) (by rw [r4 (hne c_78) (nbt (mc_b0.mp c_100)) (nbt (mc_b0.mp c_225))]; refine ⟨rfl, _, ?_, rfl⟩; exact ⟨rfl, rfl, by show _ = (if ysgn (yt3 b P) = true then yt3 b P else (-1 : Int32)); rw [if_pos (by simp [ysgn, c_341])]; rfl, rfl, yK_up (yK_up (yK_up (yK_up (yK_up gk (by decide)) (by decide)) (by decide)) (by decide)) (by decide)⟩)
            · skip
              refine e_iloadn (pc := 344) dX7_next_344 rfl ?_
              refine e_bipush (v := 43) (pc := 345) dX7_next_345 (by decide) ?_
              refine e_icmp_eq (pc := 347) dX7_next_347 (t := 374) (by decide) (fun c_347 => ?_) (fun c_347 => ?_)
              · skip
                refine e_iconst (v := 1) (pc := 374) dX7_next_374 (by decide) ?_
                refine e_goto (pc := 375) dX7_next_375 (t := 379) (by decide) ?_
                refine e_isn2 (pc := 379) dX7_next_379 (Nat.le_of_ble_eq_true rfl) rfl ?_
                refine e_aloadn (pc := 380) dX7_next_380 rfl ?_
                refine e_iloadn (pc := 381) dX7_next_381 rfl ?_
                refine e_if_eq (pc := 382) dX7_next_382 (t := 389) (by decide) (fun c_382 => absurd c_382 (by decide)) (fun _ => ?_)
                refine e_iloadn (pc := 385) dX7_next_385 rfl ?_
                refine e_goto (pc := 386) dX7_next_386 (t := 390) (by decide) ?_
                refine put_y_token (pc := 390) dX7_next_390 pX7_99 ?_
                refine e_aloadn (pc := 393) dX7_next_393 rfl ?_
                refine e_dup (pc := 394) dX7_next_394 rfl ?_
                refine e_get (pc := 395) dX7_next_395 fX7_93 rfl rfl ?_
                refine e_top (g0) ?_
                refine e_iconst (v := 1) (pc := 398) dX7_next_398 (by decide) ?_
                refine e_iadd (pc := 399) dX7_next_399 ?_
                refine e_top ((nI_1 P)) ?_
                refine put_y_at (pc := 400) dX7_next_400 pX7_93 ?_
                exact e_vret (pc := 403) dX7_next_403 rfl (Nat.le_refl _) (Nat.le_refl _) (by rw [r4 (hne c_78) (nbt (mc_b0.mp c_100)) (nbt (mc_b0.mp c_225))]; refine ⟨rfl, _, ?_, rfl⟩; exact ⟨rfl, rfl, by show _ = (if ysgn (yt3 b P) = true then yt3 b P else (-1 : Int32)); rw [if_pos (by simp [ysgn, c_347])]; rfl, rfl, yK_up (yK_up (yK_up (yK_up (yK_up gk (by decide)) (by decide)) (by decide)) (by decide)) (by decide)⟩)
              · skip
                refine e_iloadn (pc := 350) dX7_next_350 rfl ?_
                refine e_bipush (v := 45) (pc := 351) dX7_next_351 (by decide) ?_
                refine e_icmp_eq (pc := 353) dX7_next_353 (t := 374) (by decide) (fun c_353 => ?_) (fun c_353 => ?_)
                · skip
                  refine e_iconst (v := 1) (pc := 374) dX7_next_374 (by decide) ?_
                  refine e_goto (pc := 375) dX7_next_375 (t := 379) (by decide) ?_
                  refine e_isn2 (pc := 379) dX7_next_379 (Nat.le_of_ble_eq_true rfl) rfl ?_
                  refine e_aloadn (pc := 380) dX7_next_380 rfl ?_
                  refine e_iloadn (pc := 381) dX7_next_381 rfl ?_
                  refine e_if_eq (pc := 382) dX7_next_382 (t := 389) (by decide) (fun c_382 => absurd c_382 (by decide)) (fun _ => ?_)
                  refine e_iloadn (pc := 385) dX7_next_385 rfl ?_
                  refine e_goto (pc := 386) dX7_next_386 (t := 390) (by decide) ?_
                  refine put_y_token (pc := 390) dX7_next_390 pX7_99 ?_
                  refine e_aloadn (pc := 393) dX7_next_393 rfl ?_
                  refine e_dup (pc := 394) dX7_next_394 rfl ?_
                  refine e_get (pc := 395) dX7_next_395 fX7_93 rfl rfl ?_
                  refine e_top (g0) ?_
                  refine e_iconst (v := 1) (pc := 398) dX7_next_398 (by decide) ?_
                  refine e_iadd (pc := 399) dX7_next_399 ?_
                  refine e_top ((nI_1 P)) ?_
                  refine put_y_at (pc := 400) dX7_next_400 pX7_93 ?_
                  exact e_vret (pc := 403) dX7_next_403 rfl (Nat.le_refl _) (Nat.le_refl _) (by rw [r4 (hne c_78) (nbt (mc_b0.mp c_100)) (nbt (mc_b0.mp c_225))]; refine ⟨rfl, _, ?_, rfl⟩; exact ⟨rfl, rfl, by show _ = (if ysgn (yt3 b P) = true then yt3 b P else (-1 : Int32)); rw [if_pos (by simp [ysgn, c_353])]; rfl, rfl, yK_up (yK_up (yK_up (yK_up (yK_up gk (by decide)) (by decide)) (by decide)) (by decide)) (by decide)⟩)
                · skip
                  refine e_iloadn (pc := 356) dX7_next_356 rfl ?_
                  refine e_bipush (v := 42) (pc := 357) dX7_next_357 (by decide) ?_
                  refine e_icmp_eq (pc := 359) dX7_next_359 (t := 374) (by decide) (fun c_359 => ?_) (fun c_359 => ?_)
                  · skip
                    refine e_iconst (v := 1) (pc := 374) dX7_next_374 (by decide) ?_
                    refine e_goto (pc := 375) dX7_next_375 (t := 379) (by decide) ?_
                    refine e_isn2 (pc := 379) dX7_next_379 (Nat.le_of_ble_eq_true rfl) rfl ?_
                    refine e_aloadn (pc := 380) dX7_next_380 rfl ?_
                    refine e_iloadn (pc := 381) dX7_next_381 rfl ?_
                    refine e_if_eq (pc := 382) dX7_next_382 (t := 389) (by decide) (fun c_382 => absurd c_382 (by decide)) (fun _ => ?_)
                    refine e_iloadn (pc := 385) dX7_next_385 rfl ?_
                    refine e_goto (pc := 386) dX7_next_386 (t := 390) (by decide) ?_
                    refine put_y_token (pc := 390) dX7_next_390 pX7_99 ?_
                    refine e_aloadn (pc := 393) dX7_next_393 rfl ?_
                    refine e_dup (pc := 394) dX7_next_394 rfl ?_
                    refine e_get (pc := 395) dX7_next_395 fX7_93 rfl rfl ?_
                    refine e_top (g0) ?_
                    refine e_iconst (v := 1) (pc := 398) dX7_next_398 (by decide) ?_
                    refine e_iadd (pc := 399) dX7_next_399 ?_
                    refine e_top ((nI_1 P)) ?_
                    refine put_y_at (pc := 400) dX7_next_400 pX7_93 ?_
                    exact e_vret (pc := 403) dX7_next_403 rfl (Nat.le_refl _) (Nat.le_refl _) (by rw [r4 (hne c_78) (nbt (mc_b0.mp c_100)) (nbt (mc_b0.mp c_225))]; refine ⟨rfl, _, ?_, rfl⟩; exact ⟨rfl, rfl, by show _ = (if ysgn (yt3 b P) = true then yt3 b P else (-1 : Int32)); rw [if_pos (by simp [ysgn, c_359])]; rfl, rfl, yK_up (yK_up (yK_up (yK_up (yK_up gk (by decide)) (by decide)) (by decide)) (by decide)) (by decide)⟩)
                  · skip
                    refine e_iloadn (pc := 362) dX7_next_362 rfl ?_
                    refine e_bipush (v := 60) (pc := 363) dX7_next_363 (by decide) ?_
                    refine e_icmp_eq (pc := 365) dX7_next_365 (t := 374) (by decide) (fun c_365 => ?_) (fun c_365 => ?_)
                    · skip
                      refine e_iconst (v := 1) (pc := 374) dX7_next_374 (by decide) ?_
                      refine e_goto (pc := 375) dX7_next_375 (t := 379) (by decide) ?_
                      refine e_isn2 (pc := 379) dX7_next_379 (Nat.le_of_ble_eq_true rfl) rfl ?_
                      refine e_aloadn (pc := 380) dX7_next_380 rfl ?_
                      refine e_iloadn (pc := 381) dX7_next_381 rfl ?_
                      refine e_if_eq (pc := 382) dX7_next_382 (t := 389) (by decide) (fun c_382 => absurd c_382 (by decide)) (fun _ => ?_)
                      refine e_iloadn (pc := 385) dX7_next_385 rfl ?_
                      refine e_goto (pc := 386) dX7_next_386 (t := 390) (by decide) ?_
                      refine put_y_token (pc := 390) dX7_next_390 pX7_99 ?_
                      refine e_aloadn (pc := 393) dX7_next_393 rfl ?_
                      refine e_dup (pc := 394) dX7_next_394 rfl ?_
                      refine e_get (pc := 395) dX7_next_395 fX7_93 rfl rfl ?_
                      refine e_top (g0) ?_
                      refine e_iconst (v := 1) (pc := 398) dX7_next_398 (by decide) ?_
                      refine e_iadd (pc := 399) dX7_next_399 ?_
                      refine e_top ((nI_1 P)) ?_
                      refine put_y_at (pc := 400) dX7_next_400 pX7_93 ?_
                      exact e_vret (pc := 403) dX7_next_403 rfl (Nat.le_refl _) (Nat.le_refl _) (by rw [r4 (hne c_78) (nbt (mc_b0.mp c_100)) (nbt (mc_b0.mp c_225))]; refine ⟨rfl, _, ?_, rfl⟩; exact ⟨rfl, rfl, by show _ = (if ysgn (yt3 b P) = true then yt3 b P else (-1 : Int32)); rw [if_pos (by simp [ysgn, c_365])]; rfl, rfl, yK_up (yK_up (yK_up (yK_up (yK_up gk (by decide)) (by decide)) (by decide)) (by decide)) (by decide)⟩)
                    · skip
                      refine e_iloadn (pc := 368) dX7_next_368 rfl ?_
                      refine e_bipush (v := 61) (pc := 369) dX7_next_369 (by decide) ?_
                      refine e_icmp_ne (pc := 371) dX7_next_371 (t := 378) (by decide) (fun c_371 => ?_) (fun c_371 => ?_)
                      · skip
                        refine e_iconst (v := 0) (pc := 378) dX7_next_378 (by decide) ?_
                        refine e_isn2 (pc := 379) dX7_next_379 (Nat.le_of_ble_eq_true rfl) rfl ?_
                        refine e_aloadn (pc := 380) dX7_next_380 rfl ?_
                        refine e_iloadn (pc := 381) dX7_next_381 rfl ?_
                        refine e_if_eq (pc := 382) dX7_next_382 (t := 389) (by decide) (fun _ => ?_) (fun c_382 => absurd (by decide) c_382)
                        refine e_iconst (v := -1) (pc := 389) dX7_next_389 (by decide) ?_
                        refine put_y_token (pc := 390) dX7_next_390 pX7_99 ?_
                        refine e_aloadn (pc := 393) dX7_next_393 rfl ?_
                        refine e_dup (pc := 394) dX7_next_394 rfl ?_
                        refine e_get (pc := 395) dX7_next_395 fX7_93 rfl rfl ?_
                        refine e_top (g0) ?_
                        refine e_iconst (v := 1) (pc := 398) dX7_next_398 (by decide) ?_
                        refine e_iadd (pc := 399) dX7_next_399 ?_
                        refine e_top ((nI_1 P)) ?_
                        refine put_y_at (pc := 400) dX7_next_400 pX7_93 ?_
                        exact e_vret (pc := 403) dX7_next_403 rfl (Nat.le_refl _) (Nat.le_refl _) (by rw [r4 (hne c_78) (nbt (mc_b0.mp c_100)) (nbt (mc_b0.mp c_225))]; refine ⟨rfl, _, ?_, rfl⟩; exact ⟨rfl, rfl, by show _ = (if ysgn (yt3 b P) = true then yt3 b P else (-1 : Int32)); rw [if_neg (by simp [ysgn, c_329, c_335, c_341, c_347, c_353, c_359, c_365, c_371])]; rfl, rfl, yK_up (yK_up (yK_up (yK_up (yK_up gk (by decide)) (by decide)) (by decide)) (by decide)) (by decide)⟩)
                      · skip
                        refine e_iconst (v := 1) (pc := 374) dX7_next_374 (by decide) ?_
                        refine e_goto (pc := 375) dX7_next_375 (t := 379) (by decide) ?_
                        refine e_isn2 (pc := 379) dX7_next_379 (Nat.le_of_ble_eq_true rfl) rfl ?_
                        refine e_aloadn (pc := 380) dX7_next_380 rfl ?_
                        refine e_iloadn (pc := 381) dX7_next_381 rfl ?_
                        refine e_if_eq (pc := 382) dX7_next_382 (t := 389) (by decide) (fun c_382 => absurd c_382 (by decide)) (fun _ => ?_)
                        refine e_iloadn (pc := 385) dX7_next_385 rfl ?_
                        refine e_goto (pc := 386) dX7_next_386 (t := 390) (by decide) ?_
                        refine put_y_token (pc := 390) dX7_next_390 pX7_99 ?_
                        refine e_aloadn (pc := 393) dX7_next_393 rfl ?_
                        refine e_dup (pc := 394) dX7_next_394 rfl ?_
                        refine e_get (pc := 395) dX7_next_395 fX7_93 rfl rfl ?_
                        refine e_top (g0) ?_
                        refine e_iconst (v := 1) (pc := 398) dX7_next_398 (by decide) ?_
                        refine e_iadd (pc := 399) dX7_next_399 ?_
                        refine e_top ((nI_1 P)) ?_
                        refine put_y_at (pc := 400) dX7_next_400 pX7_93 ?_
                        exact e_vret (pc := 403) dX7_next_403 rfl (Nat.le_refl _) (Nat.le_refl _) (by rw [r4 (hne c_78) (nbt (mc_b0.mp c_100)) (nbt (mc_b0.mp c_225))]; refine ⟨rfl, _, ?_, rfl⟩; exact ⟨rfl, rfl, by show _ = (if ysgn (yt3 b P) = true then yt3 b P else (-1 : Int32)); rw [if_pos (by simp [ysgn, c_371])]; rfl, rfl, yK_up (yK_up (yK_up (yK_up (yK_up gk (by decide)) (by decide)) (by decide)) (by decide)) (by decide)⟩)
      · skip
        refine e_iconst (v := 0) (pc := 228) dX7_next_228 (by decide) ?_
        refine e_isn2 (pc := 229) dX7_next_229 (Nat.le_of_ble_eq_true rfl) rfl ?_
        exact lp_y_da (n0 := n) (n1 := nI P) (P := yda (yt3 b) N (N - P) P 0 0) hL hN hN2 (fun n2 e0 e1 e3 ek => lp_y_nxd (by have := (yda_k (yt3 b) N (N - P) P 0 0 p2).1; omega) (r3 (hne c_78) (nbt (mc_b0.mp c_100)) (mc_b1.mp c_225)) e0 e1 e3 ek) (N - P) P 0 0 _ (by omega) (by omega) g0 rfl rfl (yK_up (yK_up (yK_up gk (by decide)) (by decide)) (by decide)) rfl
    · skip
      exact lp_y_lt (n0 := n) (n1 := nI P) (P := ylt (yt3 b) N (N - P) P) hL hN hN2 (fun n2 e0 e1 ek => lp_y_nxl hL hN2 (ylt_le (yt3 b) N (N - P) P p2).1 (ylt_le (yt3 b) N (N - P) P p2).2 (r2 (hne c_78) (mc_b1.mp c_100)) e0 e1 ek) (N - P) P _ (by omega) g0 rfl (yK_up (yK_up (yK_up gk (by decide)) (by decide)) (by decide)) rfl
  · skip
    exact e_vret (pc := 81) dX7_next_81 rfl (Nat.le_refl _) (Nat.le_refl _) (by rw [r1 (pn.mp c_78)]; refine ⟨rfl, _, ?_, rfl⟩; exact ⟨g0.trans (congrArg nI (pn.mp c_78)), congrArg nI (pn.mp c_78), rfl, rfl, yK_up (yK_up (yK_up gk (by decide)) (by decide)) (by decide)⟩)
