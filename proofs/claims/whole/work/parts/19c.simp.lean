section SIM
variable {l : Launch} {D : va_G} {cI cP cR : ClassId} {h qr qp : Nat} {ro ao po : Nat → Nat} {x t z rf rwa pl hd ha lo ol asa : Nat} {k md : Nat} {rc RF : Nat → Int32} {cr : Nat → Nat × Nat × (Nat → Int32)} {T : Nat → Nat → Int32} {Z : Nat → Nat} {pg : Nat → PgT} {R P Hd HA Lo Ol AS : Nat → Int32}
variable {yc ym : MethodName} {wsc wsm : List Cond} {rmc rmm : Room} {as : List Value}
set_option maxHeartbeats 4000000 in
theorem sim_next (hk : k ≤ 600) (hro : ∀ i j, i < 3 → j < 3 → ro i = ro j → i = j) (hR : Rel k md rc RF cr T Z pg R P Hd HA Lo Ol) (peg : Int32) : Sim l D cI cP cR h qr qp ro ao po x t z rf rwa pl hd ha lo ol asa yX2_next wsX2_next ({ frames := 3, cells := 0, slots := 0, locals := 70 } : Room) yX3_next wsX3_next ({ frames := 2, cells := 0, slots := 0, locals := 46 } : Room) [.int peg] k md rc RF cr T Z pg R P Hd HA Lo Ol AS := by
  obtain ⟨hmd, hrc, hrow, hpeg⟩ := id hR
  by_cases hG : (0 ≤ peg ∧ peg < nI 4)
  · obtain ⟨p, hp4, rfl⟩ := pw_inP (by decide) hG
    rcases hpeg p hp4 with ⟨hRn, hgn, hOn⟩ | ⟨i, hi, hRi, hgi, hcase⟩
    · have e0 : pg p = ((pg p).1, (pg p).2.1, (pg p).2.2.1, (pg p).2.2.2.1, (pg p).2.2.2.2.1, (pg p).2.2.2.2.2) := rfl
      have hg : pg p = (none, (pg p).2.1, (pg p).2.2.1, (pg p).2.2.2.1, (pg p).2.2.2.2.1, (pg p).2.2.2.2.2) := by rw [hgn] at e0; exact e0
      exact sim_r hR (-2) (lPF_p hp4 hg (k_next_n l D cI cP cR h qr qp md (rc 0) (rc 1) (rc 2) (rc 3) po p (pg p).2.1 (nI (pg p).2.2.1) (pg p).2.2.2.1 (pg p).2.2.2.2.1 (pg p).2.2.2.2.2 hp4)) (mlift (n_next_n l D cI cP cR x t z rf rwa pl hd ha lo ol asa md T Z RF R P Hd HA Lo Ol AS p hp4 hRn))
    · obtain ⟨hn, hz, hch, hft⟩ := hrow i hi
      have e0 : pg p = ((pg p).1, (pg p).2.1, (pg p).2.2.1, (pg p).2.2.2.1, (pg p).2.2.2.2.1, (pg p).2.2.2.2.2) := rfl
      rw [hgi] at e0
      have hR1 : ¬ R p = -1 := by rw [hRi]; exact pw_nm1 (by omega)
      rcases hcase with ⟨hO, hs⟩ | ⟨hO, hs, ⟨q, hq, hPq, hpa⟩, hL, hH⟩
      · have ho : ¬ nI (pg p).2.2.1 = nI (cr i).2.1 := fun q => absurd ((pw_eqN (by omega) (by omega)).mp q) (by omega)
        exact sim_ref hR (-4) 3 (by decide) (lPRr hp4 hi e0 (k_next_o l D cI cP cR h qr qp md (rc 0) (rc 1) (rc 2) (rc 3) po ro p i (ao i) (cr i).1 (nI (cr i).2.1) (cr i).2.2 (pg p).2.1 (nI (pg p).2.2.1) (pg p).2.2.2.1 (pg p).2.2.2.2.1 (pg p).2.2.2.2.2 hp4 hi (by omega) ho)) (n_next_o l D cI cP cR x t z rf rwa pl hd ha lo ol asa md T Z RF R P Hd HA Lo Ol AS p hp4 hR1 hO)
      · have hO1 : ¬ Ol p = nI 1 := by rw [hO]; decide
        rw [hs] at e0
        rw [hpa] at e0
        by_cases hqz : q < Z i
        · exact ⟨T i q, md, rc, RF, cr, T, Z, va_up pg p (some i, nI (q + 1), (cr i).2.1, nI q, (cr i).2.2 q, nI 0), R, upd P p (nI (q + 1)), upd Hd p (T i q), upd HA p (nI q), upd Lo p (nI 0), Ol, AS,
              Rel_up (Rel_peg hR (Or.inr ⟨i, hi, hRi, rfl, Or.inr ⟨hO, rfl, ⟨_, by omega, upd_s _ _ _, rfl⟩, Or.inr ⟨upd_s _ _ _, rfl⟩, Or.inr ⟨q, by omega, upd_s _ _ _, rfl, by rw [upd_s]; exact (hft q (by omega)).2, by rw [upd_s]; exact (hft q (by omega)).1⟩⟩⟩) (fun a ha2 => ⟨rfl, upd_n _ _ ha2, upd_n _ _ ha2, upd_n _ _ ha2, upd_n _ _ ha2, rfl⟩)),
              lPRs hp4 hi e0 (by have h9 := k_next l D cI cP cR h qr qp md (rc 0) (rc 1) (rc 2) (rc 3) po ro p i (ao i) (cr i).1 (nI (cr i).2.1) (cr i).2.2 (nI 0) (nI (cr i).2.1) (pg p).2.2.2.1 (pg p).2.2.2.2.1 (pg p).2.2.2.2.2 hp4 hi (by omega) rfl q (by omega); rw [(hft q (by omega)).1] at h9 ⊢; exact h9),
              n_next l D cI cP cR x t z rf rwa pl hd ha lo ol asa md T Z RF R P Hd HA Lo Ol AS p i hp4 hi hz hRi hO1 q hPq (by omega)⟩
        · exact ⟨-6, md, upd rc 0 (rc 0 + nI 1), upd RF 0 (RF 0 + nI 1), cr, T, Z, va_up pg p (some i, nI q, (cr i).2.1, (pg p).2.2.2.1, (pg p).2.2.2.2.1, nI 1), R, P, Hd, HA, upd Lo p (nI 1), Ol, AS,
              Rel_up (Rel_rc (Rel_peg (g := (some i, nI q, (cr i).2.1, (pg p).2.2.2.1, (pg p).2.2.2.2.1, nI 1)) hR (Or.inr ⟨i, hi, hRi, rfl, Or.inr ⟨hO, rfl, ⟨q, by omega, hPq, rfl⟩, Or.inl ⟨upd_s _ _ _, rfl⟩, hH⟩⟩) (fun a ha2 => ⟨rfl, rfl, rfl, rfl, upd_n _ _ ha2, rfl⟩)) 0 (by decide)),
              lPRs hp4 hi e0 (k_next_e l D cI cP cR h qr qp md (rc 0) (rc 1) (rc 2) (rc 3) po ro p i (ao i) (cr i).1 (nI (cr i).2.1) (cr i).2.2 (nI q) (nI (cr i).2.1) (pg p).2.2.2.1 (pg p).2.2.2.2.1 (pg p).2.2.2.2.2 hp4 hi (by omega) rfl ⟨pw_ge0 (by omega), (pw_leN (by omega) (by omega)).mpr (by omega)⟩ (fun w => absurd ((pw_ltN (by omega) (by omega)).mp w.2) (by omega))),
              n_next_e l D cI cP cR x t z rf rwa pl hd ha lo ol asa md T Z RF R P Hd HA Lo Ol AS p i hp4 hi hz hRi hO1 (by rw [hPq]; exact fun w => absurd ((pw_ltN (by omega) (by omega)).mp w.2) (by omega))⟩
  · exact sim_r hR (-1) (lG_p (k_next_x l D cI cP cR h qr qp md (rc 0) (rc 1) (rc 2) (rc 3) po peg hG)) (mlift (n_next_x l D cI cP cR x t z rf rwa pl hd ha lo ol asa md T Z RF R P Hd HA Lo Ol AS peg hG))
set_option maxHeartbeats 4000000 in
theorem sim_previous (hk : k ≤ 600) (hro : ∀ i j, i < 3 → j < 3 → ro i = ro j → i = j) (hR : Rel k md rc RF cr T Z pg R P Hd HA Lo Ol) (peg : Int32) : Sim l D cI cP cR h qr qp ro ao po x t z rf rwa pl hd ha lo ol asa yX2_previous wsX2_previous ({ frames := 3, cells := 0, slots := 0, locals := 70 } : Room) yX3_previous wsX3_previous ({ frames := 2, cells := 0, slots := 0, locals := 46 } : Room) [.int peg] k md rc RF cr T Z pg R P Hd HA Lo Ol AS := by
  obtain ⟨hmd, hrc, hrow, hpeg⟩ := id hR
  by_cases hG : (0 ≤ peg ∧ peg < nI 4)
  · obtain ⟨p, hp4, rfl⟩ := pw_inP (by decide) hG
    rcases hpeg p hp4 with ⟨hRn, hgn, hOn⟩ | ⟨i, hi, hRi, hgi, hcase⟩
    · have e0 : pg p = ((pg p).1, (pg p).2.1, (pg p).2.2.1, (pg p).2.2.2.1, (pg p).2.2.2.2.1, (pg p).2.2.2.2.2) := rfl
      have hg : pg p = (none, (pg p).2.1, (pg p).2.2.1, (pg p).2.2.2.1, (pg p).2.2.2.2.1, (pg p).2.2.2.2.2) := by rw [hgn] at e0; exact e0
      exact sim_r hR (-2) (lPF_p hp4 hg (k_previous_n l D cI cP cR h qr qp md (rc 0) (rc 1) (rc 2) (rc 3) po p (pg p).2.1 (nI (pg p).2.2.1) (pg p).2.2.2.1 (pg p).2.2.2.2.1 (pg p).2.2.2.2.2 hp4)) (mlift (n_previous_n l D cI cP cR x t z rf rwa pl hd ha lo ol asa md T Z RF R P Hd HA Lo Ol AS p hp4 hRn))
    · obtain ⟨hn, hz, hch, hft⟩ := hrow i hi
      have e0 : pg p = ((pg p).1, (pg p).2.1, (pg p).2.2.1, (pg p).2.2.2.1, (pg p).2.2.2.2.1, (pg p).2.2.2.2.2) := rfl
      rw [hgi] at e0
      have hR1 : ¬ R p = -1 := by rw [hRi]; exact pw_nm1 (by omega)
      rcases hcase with ⟨hO, hs⟩ | ⟨hO, hs, ⟨q, hq, hPq, hpa⟩, hL, hH⟩
      · have ho : ¬ nI (pg p).2.2.1 = nI (cr i).2.1 := fun q => absurd ((pw_eqN (by omega) (by omega)).mp q) (by omega)
        exact sim_ref hR (-4) 3 (by decide) (lPRr hp4 hi e0 (k_previous_o l D cI cP cR h qr qp md (rc 0) (rc 1) (rc 2) (rc 3) po ro p i (ao i) (cr i).1 (nI (cr i).2.1) (cr i).2.2 (pg p).2.1 (nI (pg p).2.2.1) (pg p).2.2.2.1 (pg p).2.2.2.2.1 (pg p).2.2.2.2.2 hp4 hi (by omega) ho)) (n_previous_o l D cI cP cR x t z rf rwa pl hd ha lo ol asa md T Z RF R P Hd HA Lo Ol AS p hp4 hR1 hO)
      · have hO1 : ¬ Ol p = nI 1 := by rw [hO]; decide
        rw [hs] at e0
        rw [hpa] at e0
        cases q with
        | zero =>
          exact ⟨-6, md, upd rc 0 (rc 0 + nI 1), upd RF 0 (RF 0 + nI 1), cr, T, Z, va_up pg p (some i, nI 0, (cr i).2.1, (pg p).2.2.2.1, (pg p).2.2.2.2.1, nI 1), R, P, Hd, HA, upd Lo p (nI 1), Ol, AS,
              Rel_up (Rel_rc (Rel_peg (g := (some i, nI 0, (cr i).2.1, (pg p).2.2.2.1, (pg p).2.2.2.2.1, nI 1)) hR (Or.inr ⟨i, hi, hRi, rfl, Or.inr ⟨hO, rfl, ⟨0, by omega, hPq, rfl⟩, Or.inl ⟨upd_s _ _ _, rfl⟩, hH⟩⟩) (fun a ha2 => ⟨rfl, rfl, rfl, rfl, upd_n _ _ ha2, rfl⟩)) 0 (by decide)),
              lPRs hp4 hi e0 (k_previous_e l D cI cP cR h qr qp md (rc 0) (rc 1) (rc 2) (rc 3) po ro p i (ao i) (cr i).1 (nI (cr i).2.1) (cr i).2.2 (nI 0) (nI (cr i).2.1) (pg p).2.2.2.1 (pg p).2.2.2.2.1 (pg p).2.2.2.2.2 hp4 hi (by omega) rfl ⟨pw_ge0 (by omega), (pw_leN (by omega) (by omega)).mpr (by omega)⟩ (fun w => absurd w.1 (by decide))),
              n_previous_e l D cI cP cR x t z rf rwa pl hd ha lo ol asa md T Z RF R P Hd HA Lo Ol AS p i hp4 hi hz hRi hO1 (by rw [hPq]; exact fun w => absurd w.1 (by decide))⟩
        | succ q =>
          exact ⟨T i q, md, rc, RF, cr, T, Z, va_up pg p (some i, nI q, (cr i).2.1, nI q, (cr i).2.2 q, nI 0), R, upd P p (nI q), upd Hd p (T i q), upd HA p (nI q), upd Lo p (nI 0), Ol, AS,
              Rel_up (Rel_peg hR (Or.inr ⟨i, hi, hRi, rfl, Or.inr ⟨hO, rfl, ⟨_, by omega, upd_s _ _ _, rfl⟩, Or.inr ⟨upd_s _ _ _, rfl⟩, Or.inr ⟨q, by omega, upd_s _ _ _, rfl, by rw [upd_s]; exact (hft q (by omega)).2, by rw [upd_s]; exact (hft q (by omega)).1⟩⟩⟩) (fun a ha2 => ⟨rfl, upd_n _ _ ha2, upd_n _ _ ha2, upd_n _ _ ha2, upd_n _ _ ha2, rfl⟩)),
              lPRs hp4 hi e0 (by have h9 := k_previous l D cI cP cR h qr qp md (rc 0) (rc 1) (rc 2) (rc 3) po ro p i (ao i) (cr i).1 (nI (cr i).2.1) (cr i).2.2 (nI 0) (nI (cr i).2.1) (pg p).2.2.2.1 (pg p).2.2.2.2.1 (pg p).2.2.2.2.2 hp4 hi (by omega) rfl q (by omega); rw [(hft q (by omega)).1] at h9 ⊢; exact h9),
              n_previous l D cI cP cR x t z rf rwa pl hd ha lo ol asa md T Z RF R P Hd HA Lo Ol AS p i hp4 hi hz hRi hO1 q hPq (by omega)⟩
  · exact sim_r hR (-1) (lG_p (k_previous_x l D cI cP cR h qr qp md (rc 0) (rc 1) (rc 2) (rc 3) po peg hG)) (mlift (n_previous_x l D cI cP cR x t z rf rwa pl hd ha lo ol asa md T Z RF R P Hd HA Lo Ol AS peg hG))
set_option maxHeartbeats 4000000 in
theorem sim_side (hk : k ≤ 600) (hro : ∀ i j, i < 3 → j < 3 → ro i = ro j → i = j) (hR : Rel k md rc RF cr T Z pg R P Hd HA Lo Ol) (peg wh : Int32) : Sim l D cI cP cR h qr qp ro ao po x t z rf rwa pl hd ha lo ol asa yX2_side wsX2_side ({ frames := 2, cells := 0, slots := 0, locals := 45 } : Room) yX3_side wsX3_side ({ frames := 3, cells := 0, slots := 0, locals := 65 } : Room) [.int peg, .int wh] k md rc RF cr T Z pg R P Hd HA Lo Ol AS := by
  obtain ⟨hmd, hrc, hrow, hpeg⟩ := id hR
  by_cases hG : (0 ≤ peg ∧ peg < nI 4) ∧ (0 ≤ wh ∧ wh ≤ nI 3)
  · obtain ⟨p, hp4, rfl⟩ := pw_inP (by decide) hG.1
    obtain ⟨w4, hw, rfl⟩ := pw_inL (by decide) hG.2
    rcases hpeg p hp4 with ⟨hRn, hgn, hOn⟩ | ⟨i, hi, hRi, hgi, hcase⟩
    · have e0 : pg p = ((pg p).1, (pg p).2.1, (pg p).2.2.1, (pg p).2.2.2.1, (pg p).2.2.2.2.1, (pg p).2.2.2.2.2) := rfl
      have hg : pg p = (none, (pg p).2.1, (pg p).2.2.1, (pg p).2.2.2.1, (pg p).2.2.2.2.1, (pg p).2.2.2.2.2) := by rw [hgn] at e0; exact e0
      exact sim_r hR (-2) (lPF_p hp4 hg (k_side_n l D cI cP cR h qr qp md (rc 0) (rc 1) (rc 2) (rc 3) po p (pg p).2.1 (nI (pg p).2.2.1) (pg p).2.2.2.1 (pg p).2.2.2.2.1 (pg p).2.2.2.2.2 hp4 w4 hw)) (mlift (n_side_n l D cI cP cR x t z rf rwa pl hd ha lo ol asa md T Z RF R P Hd HA Lo Ol AS p hp4 w4 hw hRn))
    · obtain ⟨hn, hz, hch, hft⟩ := hrow i hi
      have e0 : pg p = ((pg p).1, (pg p).2.1, (pg p).2.2.1, (pg p).2.2.2.1, (pg p).2.2.2.2.1, (pg p).2.2.2.2.2) := rfl
      rw [hgi] at e0
      have hR1 : ¬ R p = -1 := by rw [hRi]; exact pw_nm1 (by omega)
      rcases hcase with ⟨hO, hs⟩ | ⟨hO, hs, ⟨q, hq, hPq, hpa⟩, hL, hH⟩
      · have ho : ¬ nI (pg p).2.2.1 = nI (cr i).2.1 := fun q => absurd ((pw_eqN (by omega) (by omega)).mp q) (by omega)
        exact sim_r hR (-4) (lPR_p hp4 hi e0 (k_side_o l D cI cP cR h qr qp md (rc 0) (rc 1) (rc 2) (rc 3) po ro p i (ao i) (cr i).1 (nI (cr i).2.1) (cr i).2.2 (pg p).2.1 (nI (pg p).2.2.1) (pg p).2.2.2.1 (pg p).2.2.2.2.1 (pg p).2.2.2.2.2 hp4 hi (by omega) ho w4 hw)) (mlift (n_side_o l D cI cP cR x t z rf rwa pl hd ha lo ol asa md T Z RF R P Hd HA Lo Ol AS p hp4 w4 hw hR1 hO))
      · have hO1 : ¬ Ol p = nI 1 := by rw [hO]; decide
        rw [hs] at e0
        rw [hpa] at e0
        rcases (show w4 = 0 ∨ w4 = 1 ∨ w4 = 2 ∨ w4 = 3 by omega) with rfl | rfl | rfl | rfl
        · exact sim_r hR (if q < Z i then 1 else 0) (by have h9 := lPR_p (po := po) hp4 hi e0 (k_side_0 l D cI cP cR h qr qp md (rc 0) (rc 1) (rc 2) (rc 3) po ro p i (ao i) (cr i).1 (nI (cr i).2.1) (cr i).2.2 (nI 0) (nI (cr i).2.1) (pg p).2.2.2.1 (pg p).2.2.2.2.1 (pg p).2.2.2.2.2 hp4 hi (by omega) rfl q (by omega)); rw [hn] at h9; exact h9) (mlift (n_side_0 l D cI cP cR x t z rf rwa pl hd ha lo ol asa md T Z RF R P Hd HA Lo Ol AS p i hp4 hi hz hRi hO1 q hPq (by omega)))
        · exact sim_r hR (if q = 0 then 0 else 1) (by have h9 := lPR_p (po := po) hp4 hi e0 (k_side_1 l D cI cP cR h qr qp md (rc 0) (rc 1) (rc 2) (rc 3) po ro p i (ao i) (cr i).1 (nI (cr i).2.1) (cr i).2.2 (nI 0) (nI (cr i).2.1) (pg p).2.2.2.1 (pg p).2.2.2.2.1 (pg p).2.2.2.2.2 hp4 hi (by omega) rfl q (by omega)); exact h9) (mlift (n_side_1 l D cI cP cR x t z rf rwa pl hd ha lo ol asa md T Z RF R P Hd HA Lo Ol AS p i hp4 hi hz hRi hO1 q hPq (by omega)))
        · exact sim_r hR (nI q) (by have h9 := lPR_p (po := po) hp4 hi e0 (k_side_2 l D cI cP cR h qr qp md (rc 0) (rc 1) (rc 2) (rc 3) po ro p i (ao i) (cr i).1 (nI (cr i).2.1) (cr i).2.2 (nI 0) (nI (cr i).2.1) (pg p).2.2.2.1 (pg p).2.2.2.2.1 (pg p).2.2.2.2.2 hp4 hi (by omega) rfl q (by omega)); exact h9) (mlift (n_side_2 l D cI cP cR x t z rf rwa pl hd ha lo ol asa md T Z RF R P Hd HA Lo Ol AS p i hp4 hi hz hRi hO1 q hPq (by omega)))
        · exact sim_r hR (nI q) (by have h9 := lPR_p (po := po) hp4 hi e0 (k_side_3 l D cI cP cR h qr qp md (rc 0) (rc 1) (rc 2) (rc 3) po ro p i (ao i) (cr i).1 (nI (cr i).2.1) (cr i).2.2 (nI 0) (nI (cr i).2.1) (pg p).2.2.2.1 (pg p).2.2.2.2.1 (pg p).2.2.2.2.2 hp4 hi (by omega) rfl q (by omega)); exact h9) (mlift (n_side_3 l D cI cP cR x t z rf rwa pl hd ha lo ol asa md T Z RF R P Hd HA Lo Ol AS p i hp4 hi hz hRi hO1 q hPq (by omega)))
  · exact sim_r hR (-1) (lG_p (k_side_x l D cI cP cR h qr qp md (rc 0) (rc 1) (rc 2) (rc 3) po peg wh hG)) (mlift (n_side_x l D cI cP cR x t z rf rwa pl hd ha lo ol asa md T Z RF R P Hd HA Lo Ol AS peg wh hG))
set_option maxHeartbeats 4000000 in
theorem sim_change (hk : k ≤ 600) (hro : ∀ i j, i < 3 → j < 3 → ro i = ro j → i = j) (hR : Rel k md rc RF cr T Z pg R P Hd HA Lo Ol) (peg name : Int32) : Sim l D cI cP cR h qr qp ro ao po x t z rf rwa pl hd ha lo ol asa yX2_change wsX2_change ({ frames := 3, cells := 0, slots := 0, locals := 67 } : Room) yX3_change wsX3_change ({ frames := 3, cells := 0, slots := 0, locals := 65 } : Room) [.int peg, .int name] k md rc RF cr T Z pg R P Hd HA Lo Ol AS := by
  obtain ⟨hmd, hrc, hrow, hpeg⟩ := id hR
  by_cases hG : (0 ≤ peg ∧ peg < nI 4) ∧ (0 ≤ name ∧ name < nI 10)
  · obtain ⟨p, hp4, rfl⟩ := pw_inP (by decide) hG.1
    obtain ⟨nm, hnm, rfl⟩ := pw_inP (by decide) hG.2
    rcases hpeg p hp4 with ⟨hRn, hgn, hOn⟩ | ⟨i, hi, hRi, hgi, hcase⟩
    · have e0 : pg p = ((pg p).1, (pg p).2.1, (pg p).2.2.1, (pg p).2.2.2.1, (pg p).2.2.2.2.1, (pg p).2.2.2.2.2) := rfl
      have hg : pg p = (none, (pg p).2.1, (pg p).2.2.1, (pg p).2.2.2.1, (pg p).2.2.2.2.1, (pg p).2.2.2.2.2) := by rw [hgn] at e0; exact e0
      exact sim_r hR (-2) (lPF_p hp4 hg (k_change_n l D cI cP cR h qr qp md (rc 0) (rc 1) (rc 2) (rc 3) po p (pg p).2.1 (nI (pg p).2.2.1) (pg p).2.2.2.1 (pg p).2.2.2.2.1 (pg p).2.2.2.2.2 hp4 nm hnm)) (mlift (n_change_n l D cI cP cR x t z rf rwa pl hd ha lo ol asa md T Z RF R P Hd HA Lo Ol AS p hp4 hRn nm hnm))
    · obtain ⟨hn, hz, hch, hft⟩ := hrow i hi
      have e0 : pg p = ((pg p).1, (pg p).2.1, (pg p).2.2.1, (pg p).2.2.2.1, (pg p).2.2.2.2.1, (pg p).2.2.2.2.2) := rfl
      rw [hgi] at e0
      have hR1 : ¬ R p = -1 := by rw [hRi]; exact pw_nm1 (by omega)
      rcases hcase with ⟨hO, hs⟩ | ⟨hO, hs, ⟨q, hq, hPq, hpa⟩, hL, hH⟩
      · have ho : ¬ nI (pg p).2.2.1 = nI (cr i).2.1 := fun q => absurd ((pw_eqN (by omega) (by omega)).mp q) (by omega)
        exact sim_ref hR (-4) 3 (by decide) (lPRr hp4 hi e0 (k_change_o l D cI cP cR h qr qp md (rc 0) (rc 1) (rc 2) (rc 3) po ro p i (ao i) (cr i).1 (nI (cr i).2.1) (cr i).2.2 (pg p).2.1 (nI (pg p).2.2.1) (pg p).2.2.2.1 (pg p).2.2.2.2.1 (pg p).2.2.2.2.2 hp4 hi (by omega) ho nm hnm)) (n_change_o l D cI cP cR x t z rf rwa pl hd ha lo ol asa md T Z RF R P Hd HA Lo Ol AS p hp4 hR1 hO nm hnm)
      · have hO1 : ¬ Ol p = nI 1 := by rw [hO]; decide
        rw [hs] at e0
        have hw : 0 ≤ (pg p).2.1 ∧ (pg p).2.1 ≤ nI (cr i).1 := by rw [hpa]; exact ⟨pw_ge0 (by omega), (pw_leN (by omega) (by omega)).mpr (by omega)⟩
        rcases hL with ⟨hL1, hpm⟩ | ⟨hL0, hpm⟩
        · rw [hpm] at e0
          exact sim_r hR (-8) (lPR_p hp4 hi e0 (k_change_m l D cI cP cR h qr qp md (rc 0) (rc 1) (rc 2) (rc 3) po ro p i (ao i) (cr i).1 (nI (cr i).2.1) (cr i).2.2 (pg p).2.1 (nI (cr i).2.1) (pg p).2.2.2.1 (pg p).2.2.2.2.1 (nI 0) hp4 hi (by omega) rfl hw nm hnm)) (mlift (n_change_m l D cI cP cR x t z rf rwa pl hd ha lo ol asa md T Z RF R P Hd HA Lo Ol AS p hp4 hR1 hO1 hL1 nm hnm))
        · have hLn : ¬ Lo p = nI 1 := by rw [hL0]; decide
          rw [hpm] at e0
          rcases hH with ⟨hH1, hph⟩ | ⟨j, hj, hA, hph, hHn, hpt⟩
          · rw [hph] at e0
            exact sim_ref hR (-7) 2 (by decide) (lPRr hp4 hi e0 (k_change_s l D cI cP cR h qr qp md (rc 0) (rc 1) (rc 2) (rc 3) po ro p i (ao i) (cr i).1 (nI (cr i).2.1) (cr i).2.2 (pg p).2.1 (nI (cr i).2.1) (-1) (pg p).2.2.2.2.1 (nI 0) hp4 hi (by omega) rfl hw (fun w => absurd w.1 (by decide)) nm hnm)) (n_change_s l D cI cP cR x t z rf rwa pl hd ha lo ol asa md T Z RF R P Hd HA Lo Ol AS p hp4 hR1 hO1 hLn hH1 nm hnm)
          · rw [hph, hpt] at e0
            have hjz : j < Z i := by omega
            have ef := (hft j hjz).1
            by_cases hd2 : T i j = Hd p
            · exact ⟨T i j, md + 1, rc, RF, va_up cr i (Z i, (cr i).2.1, upd (cr i).2.2 j (nI ((md * 10) + nm))), upR T i (upd (T i) j (nI ((md * 10) + nm))), Z, va_up pg p (some i, (pg p).2.1, (cr i).2.1, nI j, nI ((md * 10) + nm), nI 0), R, P, upd Hd p (nI ((md * 10) + nm)), HA, Lo, Ol, AS,
                  Rel_peg (Rel_lay hR hi (by omega) (ag_upd hft (pw_nm1 (by omega)))) (Or.inr ⟨i, hi, hRi, rfl, Or.inr ⟨hO, by rw [va_up_s], ⟨q, by rw [va_up_s]; show q ≤ Z i; omega, hPq, hpa⟩, Or.inr ⟨hL0, rfl⟩, Or.inr ⟨j, by rw [va_up_s]; exact hjz, hA, rfl, by rw [upd_s]; exact pw_nm1 (by omega), by rw [upd_s]⟩⟩⟩) (fun a ha2 => ⟨rfl, rfl, upd_n _ _ ha2, rfl, rfl, rfl⟩),
                  lPR hp4 hi e0 (by have h9 := k_change l D cI cP cR h qr qp md (rc 0) (rc 1) (rc 2) (rc 3) po ro p i (ao i) (cr i).1 (nI (cr i).2.1) (cr i).2.2 (pg p).2.1 (nI (cr i).2.1) (nI 0) (Hd p) (nI 0) hp4 hi (by omega) rfl hw j (by omega) (by rw [ef]; exact hd2) nm hnm; rw [ef] at h9; simpa only [hn] using h9),
                  by have h9 := n_change l D cI cP cR x t z rf rwa pl hd ha lo ol asa md T Z RF R P Hd HA Lo Ol AS p i hp4 hi hz hRi hO1 hLn hHn j hjz hA hd2 nm hnm; rw [← hd2] at h9; exact h9⟩
            · exact sim_r hR (-8) (lPR_p hp4 hi e0 (k_change_l l D cI cP cR h qr qp md (rc 0) (rc 1) (rc 2) (rc 3) po ro p i (ao i) (cr i).1 (nI (cr i).2.1) (cr i).2.2 (pg p).2.1 (nI (cr i).2.1) (nI 0) (Hd p) (nI 0) hp4 hi (by omega) rfl hw j (by omega) (by rw [ef]; exact hd2) nm hnm)) (mlift (n_change_l l D cI cP cR x t z rf rwa pl hd ha lo ol asa md T Z RF R P Hd HA Lo Ol AS p i hp4 hi hz hRi hO1 hLn hHn j hjz hA hd2 nm hnm))
  · exact sim_r hR (-1) (lG_p (k_change_x l D cI cP cR h qr qp md (rc 0) (rc 1) (rc 2) (rc 3) po peg name hG)) (mlift (n_change_x l D cI cP cR x t z rf rwa pl hd ha lo ol asa md T Z RF R P Hd HA Lo Ol AS peg name hG))
set_option maxHeartbeats 4000000 in
theorem sim_remove (hk : k ≤ 600) (hro : ∀ i j, i < 3 → j < 3 → ro i = ro j → i = j) (hR : Rel k md rc RF cr T Z pg R P Hd HA Lo Ol) (peg : Int32) : Sim l D cI cP cR h qr qp ro ao po x t z rf rwa pl hd ha lo ol asa yX2_remove wsX2_remove ({ frames := 3, cells := 0, slots := 0, locals := 67 } : Room) yX3_remove wsX3_remove ({ frames := 3, cells := 0, slots := 0, locals := 65 } : Room) [.int peg] k md rc RF cr T Z pg R P Hd HA Lo Ol AS := by
  obtain ⟨hmd, hrc, hrow, hpeg⟩ := id hR
  by_cases hG : (0 ≤ peg ∧ peg < nI 4)
  · obtain ⟨p, hp4, rfl⟩ := pw_inP (by decide) hG
    rcases hpeg p hp4 with ⟨hRn, hgn, hOn⟩ | ⟨i, hi, hRi, hgi, hcase⟩
    · have e0 : pg p = ((pg p).1, (pg p).2.1, (pg p).2.2.1, (pg p).2.2.2.1, (pg p).2.2.2.2.1, (pg p).2.2.2.2.2) := rfl
      have hg : pg p = (none, (pg p).2.1, (pg p).2.2.1, (pg p).2.2.2.1, (pg p).2.2.2.2.1, (pg p).2.2.2.2.2) := by rw [hgn] at e0; exact e0
      exact sim_r hR (-2) (lPF_p hp4 hg (k_remove_n l D cI cP cR h qr qp md (rc 0) (rc 1) (rc 2) (rc 3) po p (pg p).2.1 (nI (pg p).2.2.1) (pg p).2.2.2.1 (pg p).2.2.2.2.1 (pg p).2.2.2.2.2 hp4)) (mlift (n_remove_n l D cI cP cR x t z rf rwa pl hd ha lo ol asa md T Z RF R P Hd HA Lo Ol AS p hp4 hRn))
    · obtain ⟨hn, hz, hch, hft⟩ := hrow i hi
      have e0 : pg p = ((pg p).1, (pg p).2.1, (pg p).2.2.1, (pg p).2.2.2.1, (pg p).2.2.2.2.1, (pg p).2.2.2.2.2) := rfl
      rw [hgi] at e0
      have hR1 : ¬ R p = -1 := by rw [hRi]; exact pw_nm1 (by omega)
      rcases hcase with ⟨hO, hs⟩ | ⟨hO, hs, ⟨q, hq, hPq, hpa⟩, hL, hH⟩
      · have ho : ¬ nI (pg p).2.2.1 = nI (cr i).2.1 := fun q => absurd ((pw_eqN (by omega) (by omega)).mp q) (by omega)
        exact sim_ref hR (-4) 3 (by decide) (lPRr hp4 hi e0 (k_remove_o l D cI cP cR h qr qp md (rc 0) (rc 1) (rc 2) (rc 3) po ro p i (ao i) (cr i).1 (nI (cr i).2.1) (cr i).2.2 (pg p).2.1 (nI (pg p).2.2.1) (pg p).2.2.2.1 (pg p).2.2.2.2.1 (pg p).2.2.2.2.2 hp4 hi (by omega) ho)) (n_remove_o l D cI cP cR x t z rf rwa pl hd ha lo ol asa md T Z RF R P Hd HA Lo Ol AS p hp4 hR1 hO)
      · have hO1 : ¬ Ol p = nI 1 := by rw [hO]; decide
        rw [hs] at e0
        have hw : 0 ≤ (pg p).2.1 ∧ (pg p).2.1 ≤ nI (cr i).1 := by rw [hpa]; exact ⟨pw_ge0 (by omega), (pw_leN (by omega) (by omega)).mpr (by omega)⟩
        rcases hL with ⟨hL1, hpm⟩ | ⟨hL0, hpm⟩
        · rw [hpm] at e0
          exact sim_r hR (-8) (lPR_p hp4 hi e0 (k_remove_m l D cI cP cR h qr qp md (rc 0) (rc 1) (rc 2) (rc 3) po ro p i (ao i) (cr i).1 (nI (cr i).2.1) (cr i).2.2 (pg p).2.1 (nI (cr i).2.1) (pg p).2.2.2.1 (pg p).2.2.2.2.1 (nI 0) hp4 hi (by omega) rfl hw)) (mlift (n_remove_m l D cI cP cR x t z rf rwa pl hd ha lo ol asa md T Z RF R P Hd HA Lo Ol AS p hp4 hR1 hO1 hL1))
        · have hLn : ¬ Lo p = nI 1 := by rw [hL0]; decide
          rw [hpm] at e0
          rcases hH with ⟨hH1, hph⟩ | ⟨j, hj, hA, hph, hHn, hpt⟩
          · rw [hph] at e0
            exact sim_ref hR (-7) 2 (by decide) (lPRr hp4 hi e0 (k_remove_s l D cI cP cR h qr qp md (rc 0) (rc 1) (rc 2) (rc 3) po ro p i (ao i) (cr i).1 (nI (cr i).2.1) (cr i).2.2 (pg p).2.1 (nI (cr i).2.1) (-1) (pg p).2.2.2.2.1 (nI 0) hp4 hi (by omega) rfl hw (fun w => absurd w.1 (by decide)))) (n_remove_s l D cI cP cR x t z rf rwa pl hd ha lo ol asa md T Z RF R P Hd HA Lo Ol AS p hp4 hR1 hO1 hLn hH1)
          · rw [hph, hpt] at e0
            have hjz : j < Z i := by omega
            have ef := (hft j hjz).1
            by_cases hd2 : T i j = Hd p
            · exact ⟨T i j, md, rc, RF, va_up cr i (Z i - 1, (cr i).2.1 + 1, clsF (cr i).2.2 j (Z i)), upR T i (clsF (T i) j (Z i)), updN Z i (Z i - 1), va_up pg p (some i, nI j, (cr i).2.1 + 1, -1, Hd p, nI 0), R, upd P p (nI j), upd Hd p (-1), HA, Lo, agF R Ol (nI i) (nI p), AS,
                  Rel_own hR hp4 hi (by omega) (by omega) (ag_cls hft hjz) hRi hO ⟨j, by omega, upd_s _ _ _, rfl⟩ ⟨hL0, rfl⟩ ⟨upd_s _ _ _, rfl⟩ (fun a ha2 => ⟨upd_n _ _ ha2, upd_n _ _ ha2, rfl, rfl⟩),
                  lPR hp4 hi e0 (by have h9 := k_remove l D cI cP cR h qr qp md (rc 0) (rc 1) (rc 2) (rc 3) po ro p i (ao i) (cr i).1 (nI (cr i).2.1) (cr i).2.2 (pg p).2.1 (nI (cr i).2.1) (nI 0) (Hd p) (nI 0) hp4 hi (by omega) rfl hw j (by omega) (by rw [ef]; exact hd2); rw [ef] at h9; simpa only [hn, nI_add] using h9),
                  n_remove l D cI cP cR x t z rf rwa pl hd ha lo ol asa md T Z RF R P Hd HA Lo Ol AS p i hp4 hi hz hRi hO1 hLn hHn j hjz hA hd2⟩
            · exact sim_r hR (-8) (lPR_p hp4 hi e0 (k_remove_l l D cI cP cR h qr qp md (rc 0) (rc 1) (rc 2) (rc 3) po ro p i (ao i) (cr i).1 (nI (cr i).2.1) (cr i).2.2 (pg p).2.1 (nI (cr i).2.1) (nI 0) (Hd p) (nI 0) hp4 hi (by omega) rfl hw j (by omega) (by rw [ef]; exact hd2))) (mlift (n_remove_l l D cI cP cR x t z rf rwa pl hd ha lo ol asa md T Z RF R P Hd HA Lo Ol AS p i hp4 hi hz hRi hO1 hLn hHn j hjz hA hd2))
  · exact sim_r hR (-1) (lG_p (k_remove_x l D cI cP cR h qr qp md (rc 0) (rc 1) (rc 2) (rc 3) po peg hG)) (mlift (n_remove_x l D cI cP cR x t z rf rwa pl hd ha lo ol asa md T Z RF R P Hd HA Lo Ol AS peg hG))
set_option maxHeartbeats 4000000 in
theorem sim_add (hk : k ≤ 600) (hro : ∀ i j, i < 3 → j < 3 → ro i = ro j → i = j) (hR : Rel k md rc RF cr T Z pg R P Hd HA Lo Ol) (peg name : Int32) : Sim l D cI cP cR h qr qp ro ao po x t z rf rwa pl hd ha lo ol asa yX2_add wsX2_add ({ frames := 2, cells := 0, slots := 0, locals := 45 } : Room) yX3_add wsX3_add ({ frames := 2, cells := 0, slots := 0, locals := 46 } : Room) [.int peg, .int name] k md rc RF cr T Z pg R P Hd HA Lo Ol AS := by
  obtain ⟨hmd, hrc, hrow, hpeg⟩ := id hR
  by_cases hG : (0 ≤ peg ∧ peg < nI 4) ∧ (0 ≤ name ∧ name < nI 10)
  · obtain ⟨p, hp4, rfl⟩ := pw_inP (by decide) hG.1
    obtain ⟨nm, hnm, rfl⟩ := pw_inP (by decide) hG.2
    rcases hpeg p hp4 with ⟨hRn, hgn, hOn⟩ | ⟨i, hi, hRi, hgi, hcase⟩
    · have e0 : pg p = ((pg p).1, (pg p).2.1, (pg p).2.2.1, (pg p).2.2.2.1, (pg p).2.2.2.2.1, (pg p).2.2.2.2.2) := rfl
      have hg : pg p = (none, (pg p).2.1, (pg p).2.2.1, (pg p).2.2.2.1, (pg p).2.2.2.2.1, (pg p).2.2.2.2.2) := by rw [hgn] at e0; exact e0
      exact sim_r hR (-2) (lPF_p hp4 hg (k_add_n l D cI cP cR h qr qp md (rc 0) (rc 1) (rc 2) (rc 3) po p (pg p).2.1 (nI (pg p).2.2.1) (pg p).2.2.2.1 (pg p).2.2.2.2.1 (pg p).2.2.2.2.2 hp4 nm hnm)) (mlift (n_add_n l D cI cP cR x t z rf rwa pl hd ha lo ol asa md T Z RF R P Hd HA Lo Ol AS p hp4 nm hnm hRn))
    · obtain ⟨hn, hz, hch, hft⟩ := hrow i hi
      have e0 : pg p = ((pg p).1, (pg p).2.1, (pg p).2.2.1, (pg p).2.2.2.1, (pg p).2.2.2.2.1, (pg p).2.2.2.2.2) := rfl
      rw [hgi] at e0
      have hR1 : ¬ R p = -1 := by rw [hRi]; exact pw_nm1 (by omega)
      by_cases hf : Z i = 60
      · exact sim_r hR (-3) (lPR_p hp4 hi e0 (k_add_f l D cI cP cR h qr qp md (rc 0) (rc 1) (rc 2) (rc 3) po ro p i (ao i) (cr i).1 (nI (cr i).2.1) (cr i).2.2 (pg p).2.1 (nI (pg p).2.2.1) (pg p).2.2.2.1 (pg p).2.2.2.2.1 (pg p).2.2.2.2.2 hp4 hi (by omega) nm hnm (by omega))) (mlift (n_add_f l D cI cP cR x t z rf rwa pl hd ha lo ol asa md T Z RF R P Hd HA Lo Ol AS p i hp4 hi hz hRi nm hnm hf))
      · have hf2 : Z i < 60 := by omega
        rcases hcase with ⟨hO, hs⟩ | ⟨hO, hs, ⟨q, hq, hPq, hpa⟩, hL, hH⟩
        · have ho : ¬ nI (pg p).2.2.1 = nI (cr i).2.1 := fun q => absurd ((pw_eqN (by omega) (by omega)).mp q) (by omega)
          exact sim_ref hR (-4) 3 (by decide) (lPRr hp4 hi e0 (k_add_o l D cI cP cR h qr qp md (rc 0) (rc 1) (rc 2) (rc 3) po ro p i (ao i) (cr i).1 (nI (cr i).2.1) (cr i).2.2 (pg p).2.1 (nI (pg p).2.2.1) (pg p).2.2.2.1 (pg p).2.2.2.2.1 (pg p).2.2.2.2.2 hp4 hi (by omega) nm hnm (by omega) ho)) (n_add_o l D cI cP cR x t z rf rwa pl hd ha lo ol asa md T Z RF R P Hd HA Lo Ol AS p i hp4 hi hz hRi nm hnm hf2 hO)
        · have hO1 : ¬ Ol p = nI 1 := by rw [hO]; decide
          rw [hs] at e0
          rw [hpa] at e0
          exact ⟨nI (Z i + 1), md + 1, rc, RF, va_up cr i (Z i + 1, (cr i).2.1 + 1, upd (opn (cr i).2.2 q 1 (Z i)) q (nI ((md * 10) + nm))), upR T i (upd (opn (T i) q 1 (Z i)) q (nI ((md * 10) + nm))), updN Z i (Z i + 1), va_up pg p (some i, nI (q + 1), (cr i).2.1 + 1, -1, (pg p).2.2.2.2.1, nI 0), R, upd P p (nI (q + 1)), upd Hd p (-1), HA, upd Lo p (nI 0), agF R Ol (nI i) (nI p), AS,
              Rel_own hR hp4 hi (by omega) (by omega) (ag_ins hft (by omega) (pw_nm1 (by omega))) hRi hO ⟨q + 1, by omega, upd_s _ _ _, rfl⟩ ⟨upd_s _ _ _, rfl⟩ ⟨upd_s _ _ _, rfl⟩ (fun a ha2 => ⟨upd_n _ _ ha2, upd_n _ _ ha2, rfl, upd_n _ _ ha2⟩),
              lPR hp4 hi e0 (by have h9 := k_add l D cI cP cR h qr qp md (rc 0) (rc 1) (rc 2) (rc 3) po ro p i (ao i) (cr i).1 (nI (cr i).2.1) (cr i).2.2 (nI 0) (nI (cr i).2.1) (pg p).2.2.2.1 (pg p).2.2.2.2.1 (pg p).2.2.2.2.2 hp4 hi (by omega) nm hnm (by omega) rfl q (by omega); simpa only [hn, nI_add] using h9),
              n_add l D cI cP cR x t z rf rwa pl hd ha lo ol asa md T Z RF R P Hd HA Lo Ol AS p i hp4 hi hz hRi nm hnm hf2 hO1 q hPq (by omega)⟩
  · exact sim_r hR (-1) (lG_p (k_add_x l D cI cP cR h qr qp md (rc 0) (rc 1) (rc 2) (rc 3) po peg name hG)) (mlift (n_add_x l D cI cP cR x t z rf rwa pl hd ha lo ol asa md T Z RF R P Hd HA Lo Ol AS peg name hG))
set_option maxHeartbeats 4000000 in
theorem sim_old (hk : k ≤ 600) (hro : ∀ i j, i < 3 → j < 3 → ro i = ro j → i = j) (hR : Rel k md rc RF cr T Z pg R P Hd HA Lo Ol) (peg : Int32) : Sim l D cI cP cR h qr qp ro ao po x t z rf rwa pl hd ha lo ol asa yX2_old wsX2_old ({ frames := 2, cells := 0, slots := 0, locals := 45 } : Room) yX3_old wsX3_old ({ frames := 2, cells := 0, slots := 0, locals := 42 } : Room) [.int peg] k md rc RF cr T Z pg R P Hd HA Lo Ol AS := by
  obtain ⟨hmd, hrc, hrow, hpeg⟩ := id hR
  by_cases hG : (0 ≤ peg ∧ peg < nI 4)
  · obtain ⟨p, hp4, rfl⟩ := pw_inP (by decide) hG
    rcases hpeg p hp4 with ⟨hRn, hgn, hOn⟩ | ⟨i, hi, hRi, hgi, hcase⟩
    · have e0 : pg p = ((pg p).1, (pg p).2.1, (pg p).2.2.1, (pg p).2.2.2.1, (pg p).2.2.2.2.1, (pg p).2.2.2.2.2) := rfl
      have hg : pg p = (none, (pg p).2.1, (pg p).2.2.1, (pg p).2.2.2.1, (pg p).2.2.2.2.1, (pg p).2.2.2.2.2) := by rw [hgn] at e0; exact e0
      exact sim_r hR (-2) (lPF_p hp4 hg (k_old_n l D cI cP cR h qr qp md (rc 0) (rc 1) (rc 2) (rc 3) po p (pg p).2.1 (nI (pg p).2.2.1) (pg p).2.2.2.1 (pg p).2.2.2.2.1 (pg p).2.2.2.2.2 hp4)) (mlift (n_old_n l D cI cP cR x t z rf rwa pl hd ha lo ol asa md T Z RF R P Hd HA Lo Ol AS p hp4 hRn))
    · obtain ⟨hn, hz, hch, hft⟩ := hrow i hi
      have e0 : pg p = ((pg p).1, (pg p).2.1, (pg p).2.2.1, (pg p).2.2.2.1, (pg p).2.2.2.2.1, (pg p).2.2.2.2.2) := rfl
      rw [hgi] at e0
      have hR1 : ¬ R p = -1 := by rw [hRi]; exact pw_nm1 (by omega)
      rcases hcase with ⟨hO, hs⟩ | ⟨hO, hs, ⟨q, hq, hPq, hpa⟩, hL, hH⟩
      · have ho : ¬ nI (pg p).2.2.1 = nI (cr i).2.1 := fun q => absurd ((pw_eqN (by omega) (by omega)).mp q) (by omega)
        exact sim_r hR (nI 1) (by have h9 := lPR_p (po := po) hp4 hi e0 (k_old l D cI cP cR h qr qp md (rc 0) (rc 1) (rc 2) (rc 3) po ro p i (ao i) (cr i).1 (nI (cr i).2.1) (cr i).2.2 (pg p).2.1 (nI (pg p).2.2.1) (pg p).2.2.2.1 (pg p).2.2.2.2.1 (pg p).2.2.2.2.2 hp4 hi (by omega) (fun h => absurd h ho)); rw [if_neg ho] at h9; exact h9) (mlift (by have h9 := n_old l D cI cP cR x t z rf rwa pl hd ha lo ol asa md T Z RF R P Hd HA Lo Ol AS p hp4 hR1; rw [hO] at h9; exact h9))
      · have hO1 : ¬ Ol p = nI 1 := by rw [hO]; decide
        rw [hs] at e0
        exact sim_r hR (nI 0) (by have h9 := lPR_p (po := po) hp4 hi e0 (k_old l D cI cP cR h qr qp md (rc 0) (rc 1) (rc 2) (rc 3) po ro p i (ao i) (cr i).1 (nI (cr i).2.1) (cr i).2.2 (pg p).2.1 (nI (cr i).2.1) (pg p).2.2.2.1 (pg p).2.2.2.2.1 (pg p).2.2.2.2.2 hp4 hi (by omega) (fun _ => by rw [hpa]; exact ⟨pw_ge0 (by omega), (pw_leN (by omega) (by omega)).mpr (by omega)⟩)); rw [if_pos rfl] at h9; exact h9) (mlift (by have h9 := n_old l D cI cP cR x t z rf rwa pl hd ha lo ol asa md T Z RF R P Hd HA Lo Ol AS p hp4 hR1; rw [hO] at h9; exact h9))
  · exact sim_r hR (-1) (lG_p (k_old_x l D cI cP cR h qr qp md (rc 0) (rc 1) (rc 2) (rc 3) po peg hG)) (mlift (n_old_x l D cI cP cR x t z rf rwa pl hd ha lo ol asa md T Z RF R P Hd HA Lo Ol AS peg hG))
set_option maxHeartbeats 4000000 in
theorem sim_peg (hk : k ≤ 600) (hro : ∀ i j, i < 3 → j < 3 → ro i = ro j → i = j) (hR : Rel k md rc RF cr T Z pg R P Hd HA Lo Ol) (peg row q : Int32) : Sim l D cI cP cR h qr qp ro ao po x t z rf rwa pl hd ha lo ol asa yX2_peg wsX2_peg ({ frames := 2, cells := 0, slots := 0, locals := 45 } : Room) yX3_peg wsX3_peg ({ frames := 3, cells := 0, slots := 0, locals := 65 } : Room) [.int peg, .int row, .int q] k md rc RF cr T Z pg R P Hd HA Lo Ol AS := by
  obtain ⟨hmd, hrc, hrow, hpeg⟩ := id hR
  by_cases hP1 : (0 ≤ peg ∧ peg < nI 4)
  · obtain ⟨p, hp4, rfl⟩ := pw_inP (by decide) hP1
    by_cases hR0 : (0 ≤ row ∧ row < nI 3)
    · obtain ⟨i, hi, rfl⟩ := pw_inP (by decide) hR0
      obtain ⟨hn, hz, hch, hft⟩ := hrow i hi
      by_cases hq : 0 ≤ q ∧ q ≤ nI (Z i)
      · obtain ⟨j, hj, rfl⟩ := pw_inL (by omega) hq
        exact ⟨nI j, md, rc, RF, cr, T, Z, va_up pg p (some i, nI j, (cr i).2.1, -1, (pg p).2.2.2.2.1, nI 0), upd (upd R p (-1)) p (nI i), upd P p (nI j), upd Hd p (-1), HA, upd Lo p (nI 0), upd Ol p (nI 0), AS,
            Rel_up (Rel_peg hR (Or.inr ⟨i, hi, upd_s _ _ _, rfl, Or.inr ⟨upd_s _ _ _, rfl, ⟨j, by omega, upd_s _ _ _, rfl⟩, Or.inr ⟨upd_s _ _ _, rfl⟩, Or.inl ⟨upd_s _ _ _, rfl⟩⟩⟩) (fun a ha2 => ⟨by rw [upd_n _ _ ha2, upd_n _ _ ha2], upd_n _ _ ha2, upd_n _ _ ha2, rfl, upd_n _ _ ha2, upd_n _ _ ha2⟩)),
            lPG hp4 hi (k_peg l D cI cP cR h qr qp md (rc 0) (rc 1) (rc 2) (rc 3) po ro p i (ao i) (cr i).1 (nI (cr i).2.1) (cr i).2.2 (va_rf ((pg p).1.map ro)) (pg p).2.1 (nI (pg p).2.2.1) (pg p).2.2.2.1 (pg p).2.2.2.2.1 (pg p).2.2.2.2.2 hp4 hi (by omega) j (by omega)),
            n_peg l D cI cP cR x t z rf rwa pl hd ha lo ol asa md T Z RF R P Hd HA Lo Ol AS p i hp4 hi hz j hj⟩
      · exact sim_ref hR (-5) 1 (by decide) (lPGr hp4 hi (k_peg_p l D cI cP cR h qr qp md (rc 0) (rc 1) (rc 2) (rc 3) po ro p i (ao i) (cr i).1 (nI (cr i).2.1) (cr i).2.2 (va_rf ((pg p).1.map ro)) (pg p).2.1 (nI (pg p).2.2.1) (pg p).2.2.2.1 (pg p).2.2.2.2.1 (pg p).2.2.2.2.2 hp4 hi (by omega) q (by rw [hn]; exact hq))) (n_peg_p l D cI cP cR x t z rf rwa pl hd ha lo ol asa md T Z RF R P Hd HA Lo Ol AS p i hp4 hi hz q hq)
    · exact sim_r hR (-1) (lBG_p (k_peg_z l D cI cP cR h qr qp md (rc 0) (rc 1) (rc 2) (rc 3) ro po p hp4 row q hR0)) (mlift (n_peg_z l D cI cP cR x t z rf rwa pl hd ha lo ol asa md T Z RF R P Hd HA Lo Ol AS p hp4 row q hR0))
  · by_cases hR0 : (0 ≤ row ∧ row < nI 3)
    · obtain ⟨i, hi, rfl⟩ := pw_inP (by decide) hR0
      exact sim_r hR (-1) (lBG_p (k_peg_x l D cI cP cR h qr qp md (rc 0) (rc 1) (rc 2) (rc 3) ro po peg q i hi hP1)) (mlift (n_peg_x l D cI cP cR x t z rf rwa pl hd ha lo ol asa md T Z RF R P Hd HA Lo Ol AS peg (nI i) q hP1))
    · exact sim_r hR (-1) (lBG_p (k_peg_y l D cI cP cR h qr qp md (rc 0) (rc 1) (rc 2) (rc 3) ro po peg row q hP1 hR0)) (mlift (n_peg_x l D cI cP cR x t z rf rwa pl hd ha lo ol asa md T Z RF R P Hd HA Lo Ol AS peg row q hP1))
theorem cnt5 {k2 : PgT} {r p2 hd2 ha2 lo2 ol2 : Int32} (hg : PegR cr r p2 hd2 ha2 lo2 ol2 k2) : (if k2.1.map ro = none then 0 else 1) = (if r = -1 then 0 else 1) := by
  rcases hg with ⟨e1, e, -⟩ | ⟨i, hi, e1, e, -⟩
  · rw [e, e1]; rfl
  · rw [e, e1, if_neg (pw_nm1 (by omega))]; rfl
theorem cnt6 {k2 : PgT} {r p2 hd2 ha2 lo2 ol2 : Int32} (hk : ∀ i, i < 3 → (cr i).2.1 ≤ 600) (hg : PegR cr r p2 hd2 ha2 lo2 ol2 k2) : nI (oldP k2.1 (nI k2.2.2.1) (nI (cr 0).2.1) (nI (cr 1).2.1) (nI (cr 2).2.1)) = ol2 := by
  rcases hg with ⟨e1, e, e2⟩ | ⟨i, hi, e1, e, hc⟩
  · rw [e, e2]; rfl
  · have e3 : oldP k2.1 (nI k2.2.2.1) (nI (cr 0).2.1) (nI (cr 1).2.1) (nI (cr 2).2.1) = if nI k2.2.2.1 = nI (cr i).2.1 then 0 else 1 := by
      rw [e]
      rcases (show i = 0 ∨ i = 1 ∨ i = 2 by omega) with rfl | rfl | rfl <;> rfl
    rw [e3]
    have hb := hk i hi
    rcases hc with ⟨h1, h2⟩ | ⟨h1, h2, -⟩
    · rw [if_neg (fun q => absurd ((pw_eqN (by omega) (by omega)).mp q) (by omega)), h1]
    · rw [h2, if_pos rfl, h1]
theorem cnt7 {k2 : PgT} {r p2 hd2 ha2 lo2 ol2 : Int32} (hk : ∀ i, i < 3 → (cr i).2.1 ≤ 600) (hz : ∀ i, i < 3 → (cr i).1 ≤ 60) (hg : PegR cr r p2 hd2 ha2 lo2 ol2 k2) : inP k2.1 k2.2.1 (nI k2.2.2.1) (nI (cr 0).2.1) (nI (cr 1).2.1) (nI (cr 2).2.1) (cr 0).1 (cr 1).1 (cr 2).1 := by
  rcases hg with ⟨-, e, -⟩ | ⟨i, hi, -, e, hc⟩
  · rw [e]; exact True.intro
  · have hb := hk i hi
    have hn := hz i hi
    have e3 : nI k2.2.2.1 = nI (cr i).2.1 → 0 ≤ k2.2.1 ∧ k2.2.1 ≤ nI (cr i).1 := by
      intro q
      rcases hc with ⟨-, h2⟩ | ⟨-, -, ⟨q2, hq2, -, hpa⟩, -⟩
      · exact absurd ((pw_eqN (by omega) (by omega)).mp q) (by omega)
      · rw [hpa]; exact ⟨pw_ge0 (by omega), (pw_leN (by omega) (by omega)).mpr (by omega)⟩
    rw [e]
    rcases (show i = 0 ∨ i = 1 ∨ i = 2 by omega) with rfl | rfl | rfl <;> exact e3
set_option maxHeartbeats 4000000 in
theorem sim_count (hk : k ≤ 600) (hro : ∀ i j, i < 3 → j < 3 → ro i = ro j → i = j) (hR : Rel k md rc RF cr T Z pg R P Hd HA Lo Ol) (wh : Int32) : Sim l D cI cP cR h qr qp ro ao po x t z rf rwa pl hd ha lo ol asa yX2_count wsX2_count ({ frames := 3, cells := 0, slots := 0, locals := 63 } : Room) yX3_count wsX3_count ({ frames := 1, cells := 0, slots := 0, locals := 22 } : Room) [.int wh] k md rc RF cr T Z pg R P Hd HA Lo Ol AS := by
  obtain ⟨hmd, hrc, hrow, hpeg⟩ := id hR
  by_cases hG : 0 ≤ wh ∧ wh ≤ nI 6
  · obtain ⟨w4, hw, rfl⟩ := pw_inL (by decide) hG
    rcases (show w4 = 0 ∨ w4 = 1 ∨ w4 = 2 ∨ w4 = 3 ∨ w4 = 4 ∨ w4 = 5 ∨ w4 = 6 by omega) with rfl | rfl | rfl | rfl | rfl | rfl | rfl
    · exact sim_r hR (nI md) (lT_p (k_count_0 l D cI cP cR h qr qp md (rc 0) (rc 1) (rc 2) (rc 3))) (mlift (n_count_0 l D cI cP cR x t z rf rwa pl hd ha lo ol asa md T Z RF R P Hd HA Lo Ol AS))
    · exact sim_r hR (RF 0) (by have h9 := lT_p (cP := cP) (ro := ro) (ao := ao) (po := po) (rc := rc) (rw := cr) (pg := pg) (k_count_1 l D cI cP cR h qr qp md (rc 0) (rc 1) (rc 2) (rc 3)); rw [hrc 0 (by decide)] at h9; exact h9) (mlift (n_count_1 l D cI cP cR x t z rf rwa pl hd ha lo ol asa md T Z RF R P Hd HA Lo Ol AS))
    · exact sim_r hR (RF 1) (by have h9 := lT_p (cP := cP) (ro := ro) (ao := ao) (po := po) (rc := rc) (rw := cr) (pg := pg) (k_count_2 l D cI cP cR h qr qp md (rc 0) (rc 1) (rc 2) (rc 3)); rw [hrc 1 (by decide)] at h9; exact h9) (mlift (n_count_2 l D cI cP cR x t z rf rwa pl hd ha lo ol asa md T Z RF R P Hd HA Lo Ol AS))
    · exact sim_r hR (RF 2) (by have h9 := lT_p (cP := cP) (ro := ro) (ao := ao) (po := po) (rc := rc) (rw := cr) (pg := pg) (k_count_3 l D cI cP cR h qr qp md (rc 0) (rc 1) (rc 2) (rc 3)); rw [hrc 2 (by decide)] at h9; exact h9) (mlift (n_count_3 l D cI cP cR x t z rf rwa pl hd ha lo ol asa md T Z RF R P Hd HA Lo Ol AS))
    · exact sim_r hR (RF 3) (by have h9 := lT_p (cP := cP) (ro := ro) (ao := ao) (po := po) (rc := rc) (rw := cr) (pg := pg) (k_count_4 l D cI cP cR h qr qp md (rc 0) (rc 1) (rc 2) (rc 3)); rw [hrc 3 (by decide)] at h9; exact h9) (mlift (n_count_4 l D cI cP cR x t z rf rwa pl hd ha lo ol asa md T Z RF R P Hd HA Lo Ol AS))
    · have e : (if (pg 0).1.map ro = none then 0 else 1) + (if (pg 1).1.map ro = none then 0 else 1) + (if (pg 2).1.map ro = none then 0 else 1) + (if (pg 3).1.map ro = none then 0 else 1) = 0 + (if R 0 = -1 then 0 else 1) + (if R 1 = -1 then 0 else 1) + (if R 2 = -1 then 0 else 1) + (if R 3 = -1 then 0 else 1) := by rw [cnt5 (hpeg 0 (by decide)), cnt5 (hpeg 1 (by decide)), cnt5 (hpeg 2 (by decide)), cnt5 (hpeg 3 (by decide))]; omega
      exact sim_r hR (nI (0 + (if R 0 = -1 then 0 else 1) + (if R 1 = -1 then 0 else 1) + (if R 2 = -1 then 0 else 1) + (if R 3 = -1 then 0 else 1))) (by have h9 := lC_p (k_count_5 l D cI cP cR h qr qp md (rc 0) (rc 1) (rc 2) (rc 3) po ro (pg 0).1 (pg 0).2.1 (nI (pg 0).2.2.1) (pg 0).2.2.2.1 (pg 0).2.2.2.2.1 (pg 0).2.2.2.2.2 (pg 1).1 (pg 1).2.1 (nI (pg 1).2.2.1) (pg 1).2.2.2.1 (pg 1).2.2.2.2.1 (pg 1).2.2.2.2.2 (pg 2).1 (pg 2).2.1 (nI (pg 2).2.2.1) (pg 2).2.2.2.1 (pg 2).2.2.2.2.1 (pg 2).2.2.2.2.2 (pg 3).1 (pg 3).2.1 (nI (pg 3).2.2.1) (pg 3).2.2.2.1 (pg 3).2.2.2.2.1 (pg 3).2.2.2.2.2 (ao 0) (ao 1) (ao 2) (cr 0).1 (cr 1).1 (cr 2).1 (nI (cr 0).2.1) (nI (cr 1).2.1) (nI (cr 2).2.1) (cr 0).2.2 (cr 1).2.2 (cr 2).2.2); rw [e] at h9; exact h9) (mlift (n_count_5 l D cI cP cR x t z rf rwa pl hd ha lo ol asa md T Z RF R P Hd HA Lo Ol AS))
    · have hk6 : ∀ i, i < 3 → (cr i).2.1 ≤ 600 := fun i hi => by have := (hrow i hi).2.2.1; omega
      have hz6 : ∀ i, i < 3 → (cr i).1 ≤ 60 := fun i hi => by have h1 := (hrow i hi).1; have h2 := (hrow i hi).2.1; omega
      have e : nI (oldP (pg 0).1 (nI (pg 0).2.2.1) (nI (cr 0).2.1) (nI (cr 1).2.1) (nI (cr 2).2.1) + oldP (pg 1).1 (nI (pg 1).2.2.1) (nI (cr 0).2.1) (nI (cr 1).2.1) (nI (cr 2).2.1) + oldP (pg 2).1 (nI (pg 2).2.2.1) (nI (cr 0).2.1) (nI (cr 1).2.1) (nI (cr 2).2.1) + oldP (pg 3).1 (nI (pg 3).2.2.1) (nI (cr 0).2.1) (nI (cr 1).2.1) (nI (cr 2).2.1)) = Ol 0 + Ol 1 + Ol 2 + Ol 3 := by rw [← nI_add, ← nI_add, ← nI_add, cnt6 hk6 (hpeg 0 (by decide)), cnt6 hk6 (hpeg 1 (by decide)), cnt6 hk6 (hpeg 2 (by decide)), cnt6 hk6 (hpeg 3 (by decide))]
      exact sim_r hR (Ol 0 + Ol 1 + Ol 2 + Ol 3) (by have h9 := lC_p (k_count_6 l D cI cP cR h qr qp md (rc 0) (rc 1) (rc 2) (rc 3) po ro (pg 0).1 (pg 0).2.1 (nI (pg 0).2.2.1) (pg 0).2.2.2.1 (pg 0).2.2.2.2.1 (pg 0).2.2.2.2.2 (pg 1).1 (pg 1).2.1 (nI (pg 1).2.2.1) (pg 1).2.2.2.1 (pg 1).2.2.2.2.1 (pg 1).2.2.2.2.2 (pg 2).1 (pg 2).2.1 (nI (pg 2).2.2.1) (pg 2).2.2.2.1 (pg 2).2.2.2.2.1 (pg 2).2.2.2.2.2 (pg 3).1 (pg 3).2.1 (nI (pg 3).2.2.1) (pg 3).2.2.2.1 (pg 3).2.2.2.2.1 (pg 3).2.2.2.2.2 (ao 0) (ao 1) (ao 2) (cr 0).1 (cr 1).1 (cr 2).1 (nI (cr 0).2.1) (nI (cr 1).2.1) (nI (cr 2).2.1) (cr 0).2.2 (cr 1).2.2 (cr 2).2.2 (pgL_3 (hpeg 0 (by decide))) (pgL_3 (hpeg 1 (by decide))) (pgL_3 (hpeg 2 (by decide))) (pgL_3 (hpeg 3 (by decide))) (cnt7 hk6 hz6 (hpeg 0 (by decide))) (cnt7 hk6 hz6 (hpeg 1 (by decide))) (cnt7 hk6 hz6 (hpeg 2 (by decide))) (cnt7 hk6 hz6 (hpeg 3 (by decide)))); rw [e] at h9; exact h9) (mlift (n_count_6 l D cI cP cR x t z rf rwa pl hd ha lo ol asa md T Z RF R P Hd HA Lo Ol AS))
  · exact sim_r hR (-1) (lT_p (k_count_x l D cI cP cR h qr qp md (rc 0) (rc 1) (rc 2) (rc 3) wh hG)) (mlift (n_count_x l D cI cP cR x t z rf rwa pl hd ha lo ol asa md T Z RF R P Hd HA Lo Ol AS wh hG))
end SIM
