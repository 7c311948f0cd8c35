/-! the past, and lines of years -/
theorem zring : ∀ j, j < 16 → zT (75 + 4 * j) = (6, 0) ∧ zR 74 j = 75 + 4 * j := by decide +kernel
def PC (n pc : Nat) (pS : Nat → zSt) (h : zH) : Prop := pc ≤ 16 ∧ ∃ top, top < 16 ∧ h.1 73 1 = nI top ∧ h.1 73 2 = nI pc ∧ ∀ i, i < pc → SC n (pS i) h (75 + 4 * ((top + 16 - pc + i) % 16))
def PM (n pc : Nat) (pS : Nat → zSt) (h : zH) : Prop := pc ≤ 16 ∧ h.1 139 49 = nI pc ∧ ∀ i, i < pc → SM n (pS i) h 174 (107 * i)
def ipu (pc : Nat) (pS : Nat → zSt) (S : zSt) : Nat × (Nat → zSt) := if pc = 16 then (16, fun i => if i = 15 then S else pS (i + 1)) else (pc + 1, fun i => if i = pc then S else pS i)
def AP : Nat → Nat → Prop := fun a _ => a = 73 ∨ (75 ≤ a ∧ a ≤ 138)
section K1
variable {n pc : Nat} {pS : Nat → zSt} {S : zSt} {h h' : zH}
theorem PC.same {A : Nat → Nat → Prop} (H : PC n pc pS h) (x : zsm A h h') (hA : ∀ a k, 73 ≤ a → a ≤ 138 → ¬ A a k) : PC n pc pS h' := by
  obtain ⟨h1, top, h2, h3, h4, h5⟩ := H
  refine ⟨h1, top, h2, by rw [(x _ _ (hA _ _ (by omega) (by omega))).1]; exact h3, by rw [(x _ _ (hA _ _ (by omega) (by omega))).1]; exact h4, fun i hi => (h5 i hi).same x (fun a b ha hb => hA a b (by omega) (by omega))⟩
theorem PM.same {A : Nat → Nat → Prop} (H : PM n pc pS h) (x : zsm A h h') (h9 : ¬ A 139 49) (hA : ∀ k, ¬ A 174 k) : PM n pc pS h' := by
  obtain ⟨h1, h2, h3⟩ := H
  exact ⟨h1, by rw [(x _ _ h9).1]; exact h2, fun i hi => (h3 i hi).same x hA⟩
theorem e_X3_keep {t : Nat} (hn : n ≤ 7) (H : PC n pc pS h) (ht : zT t = (6, 0)) (h75 : t < 75) (HS : SC n S h t) : ∃ h', g_X3_keep h 73 t = some h' ∧ PC n (ipu pc pS S).1 (ipu pc pS S).2 h' ∧ zsm AP h h' := by
  obtain ⟨h1, top, h2, h3, h4, h5⟩ := H
  obtain ⟨r1, r2⟩ := zring top h2
  have ht0 := zst ht
  obtain ⟨hb, eb, kb, wb⟩ := e_X7_become (h := h) r1 ht (by omega)
  have w1 : zsm AP h hb := wb.mono (fun a b z => by unfold AO at z; unfold AP; omega)
  have b1 : hb.1 73 1 = nI top := by rw [(wb _ _ (by unfold AO; omega)).1]; exact h3
  have b2 : hb.1 73 2 = nI pc := by rw [(wb _ _ (by unfold AO; omega)).1]; exact h4
  have key : ∀ nt, nt < 16 → nt = (top + 1) % 16 → ∃ h', g_X3_keep_35 73 t (nI nt) hb = some h' ∧ PC n (ipu pc pS S).1 (ipu pc pS S).2 h' ∧ zsm AP h h' := by
    intro nt hnt ent
    have w2 : zsm AP h (zpi (zpi hb 73 1 (nI nt)) 73 2 (nI (ipu pc pS S).1)) := w1.tr ((zsm.pi (by unfold AP; omega)).tr (zsm.pi (by unfold AP; omega)))
    refine ⟨zpi (zpi hb 73 1 (nI nt)) 73 2 (nI (ipu pc pS S).1), ?_, ⟨?_, nt, hnt, ?_, ?_, ?_⟩, w2⟩
    · have b3 : (zpi hb 73 1 (nI nt)).1 73 2 = nI pc := by rw [zpi_r, if_neg (by omega)]; exact b2
      unfold g_X3_keep_35
      simp only [zlet_e, b3]
      congr 2
      unfold ipu
      by_cases c : pc = 16
      · rw [c]; rfl
      · rw [if_neg c]
        show (if nI pc + 1 < 16 then nI pc + 1 else 16) = nI (pc + 1)
        by_cases c5 : pc = 15
        · rw [c5]; rfl
        · rw [nI_1, if_pos (by rw [zltR_16 (by omega)]; omega)]
    · unfold ipu; split <;> simp <;> omega
    · rw [zpi_r, if_neg (by omega), zpi_r, if_pos ⟨rfl, rfl⟩]
    · rw [zpi_r, if_pos ⟨rfl, rfl⟩]
    · intro i hi
      have kS : SC n S hb (75 + 4 * top) := kb hn HS
      have old : ∀ j, j < pc → (top + 16 - pc + j) % 16 ≠ top → SC n (pS j) hb (75 + 4 * ((top + 16 - pc + j) % 16)) := fun j hj hne => (h5 j hj).same wb (fun a b ha hb => by unfold AO; omega)
      have wz : zsm (fun a _ => a = 73) hb (zpi (zpi hb 73 1 (nI nt)) 73 2 (nI (ipu pc pS S).1)) := (zsm.pi (A := fun a _ => a = 73) rfl).tr (zsm.pi (A := fun a _ => a = 73) rfl)
      have mv : ∀ {S1 : zSt} {j : Nat}, SC n S1 hb (75 + 4 * j) → SC n S1 (zpi (zpi hb 73 1 (nI nt)) 73 2 (nI (ipu pc pS S).1)) (75 + 4 * j) := fun q => q.same wz (fun a b ha hb => by omega)
      unfold ipu at hi ⊢
      by_cases c : pc = 16
      · simp only [if_pos c] at hi ⊢
        by_cases c2 : i = 15
        · rw [if_pos c2, show (nt + 16 - 16 + i) % 16 = top by omega]
          have := mv kS
          unfold ipu at this
          simp only [if_pos c] at this
          exact this
        · rw [if_neg c2, show (nt + 16 - 16 + i) % 16 = (top + 16 - pc + (i + 1)) % 16 by omega]
          have := mv (old (i + 1) (by omega) (by omega))
          unfold ipu at this
          simp only [if_pos c] at this
          exact this
      · simp only [if_neg c] at hi ⊢
        by_cases c2 : i = pc
        · rw [if_pos c2, show (nt + 16 - (pc + 1) + i) % 16 = top by omega]
          have := mv kS
          unfold ipu at this
          simp only [if_neg c] at this
          exact this
        · rw [if_neg c2, show (nt + 16 - (pc + 1) + i) % 16 = (top + 16 - pc + i) % 16 by omega]
          have := mv (old i (by omega) (by omega))
          unfold ipu at this
          simp only [if_neg c] at this
          exact this
  unfold g_X3_keep
  simp (disch := omega) only [h3, r2, zr_0_0, zr_0_1, zr_0_2, zr_0_3, zr_0_4, zr_0_5, zr_0_6, zr_0_7, zr_0_8, zr_1_0, zr_3_0, zr_3_1, zr_3_2, zr_3_3, zr_3_4, zr_3_5, zr_3_6, zr_10_0, zr_10_1, zr_13_0, zr_13_1, zr_13_4, zr_14_0, zr_14_1, zr_14_2, zr_14_3, zr_14_4, zr_14_5, zr_14_6, zr_21_0, zr_21_1, zr_24_0, zr_24_1, zr_24_2, zr_26_0, zr_26_1, zr_26_4, zr_27_0, zr_37_0, zr_37_1, zr_38_0, zr_44_0, zr_44_1, zr_44_2, zr_44_3, zr_45_0, zr_45_1, zr_52_0, zr_52_1, zr_59_0, zr_59_1, zr_66_0, zr_66_1, zr_73_0, zr_74_0, zr_74_1, zr_74_2, zr_74_3, zr_74_4, zr_74_5, zr_74_6, zr_74_7, zr_74_8, zr_74_9, zr_74_10, zr_74_11, zr_74_12, zr_74_13, zr_74_14, zr_74_15, zr_139_2, zr_139_10, zr_139_11, zr_139_12, zr_139_13, zr_139_14, zr_139_15, zr_139_16, zr_139_17, zr_139_18, zr_139_19, zr_139_20, zr_139_23, zr_139_24, zr_139_25, zr_139_26, zr_139_27, zr_139_28, zr_139_29, zr_139_30, zr_139_31, zr_139_32, zr_139_33, zr_139_34, zr_139_37, zr_139_38, zr_139_39, zr_139_40, zr_139_41, zr_139_42, zr_139_43, zr_139_44, zr_139_45, zr_139_46, zr_139_47, zr_139_48, zr_139_50, zin_t, zx_nI, nI_add, nI_mul, znI_le, znI_lt, znI_eq, znI_neg, zgu_t, zgu_f, zbind_s, zlet_e, zb_eq0, zb_eq1, zb_t, zb_f, zleL_0, zleR_0, zltL_0, zltR_0, zeq_0, zxl_0, zil_0, zmL_1, zmR_1, zaL_1, zaR_1, zleL_1, zleR_1, zltL_1, zltR_1, zeq_1, zxl_1, zil_1, zmL_2, zmR_2, zaL_2, zaR_2, zleL_2, zleR_2, zltL_2, zltR_2, zeq_2, zxl_2, zil_2, zmL_3, zmR_3, zaL_3, zaR_3, zleL_3, zleR_3, zltL_3, zltR_3, zeq_3, zxl_3, zil_3, zmL_4, zmR_4, zaL_4, zaR_4, zleL_4, zleR_4, zltL_4, zltR_4, zeq_4, zxl_4, zil_4, zmL_5, zmR_5, zaL_5, zaR_5, zleL_5, zleR_5, zltL_5, zltR_5, zeq_5, zxl_5, zil_5, zmL_6, zmR_6, zaL_6, zaR_6, zleL_6, zleR_6, zltL_6, zltR_6, zeq_6, zxl_6, zil_6, zmL_7, zmR_7, zaL_7, zaR_7, zleL_7, zleR_7, zltL_7, zltR_7, zeq_7, zxl_7, zil_7, zmL_8, zmR_8, zaL_8, zaR_8, zleL_8, zleR_8, zltL_8, zltR_8, zeq_8, zxl_8, zil_8, zmL_9, zmR_9, zaL_9, zaR_9, zleL_9, zleR_9, zltL_9, zltR_9, zeq_9, zxl_9, zil_9, zmL_10, zmR_10, zaL_10, zaR_10, zleL_10, zleR_10, zltL_10, zltR_10, zeq_10, zxl_10, zil_10, zmL_14, zmR_14, zaL_14, zaR_14, zleL_14, zleR_14, zltL_14, zltR_14, zeq_14, zxl_14, zil_14, zmL_15, zmR_15, zaL_15, zaR_15, zleL_15, zleR_15, zltL_15, zltR_15, zeq_15, zxl_15, zil_15, zmL_16, zmR_16, zaL_16, zaR_16, zleL_16, zleR_16, zltL_16, zltR_16, zeq_16, zxl_16, zil_16, zmL_20, zmR_20, zaL_20, zaR_20, zleL_20, zleR_20, zltL_20, zltR_20, zeq_20, zxl_20, zil_20, zmL_22, zmR_22, zaL_22, zaR_22, zleL_22, zleR_22, zltL_22, zltR_22, zeq_22, zxl_22, zil_22, zmL_23, zmR_23, zaL_23, zaR_23, zleL_23, zleR_23, zltL_23, zltR_23, zeq_23, zxl_23, zil_23, zmL_24, zmR_24, zaL_24, zaR_24, zleL_24, zleR_24, zltL_24, zltR_24, zeq_24, zxl_24, zil_24, zmL_25, zmR_25, zaL_25, zaR_25, zleL_25, zleR_25, zltL_25, zltR_25, zeq_25, zxl_25, zil_25, zmL_26, zmR_26, zaL_26, zaR_26, zleL_26, zleR_26, zltL_26, zltR_26, zeq_26, zxl_26, zil_26, zmL_32, zmR_32, zaL_32, zaR_32, zleL_32, zleR_32, zltL_32, zltR_32, zeq_32, zxl_32, zil_32, zmL_40, zmR_40, zaL_40, zaR_40, zleL_40, zleR_40, zltL_40, zltR_40, zeq_40, zxl_40, zil_40, zmL_49, zmR_49, zaL_49, zaR_49, zleL_49, zleR_49, zltL_49, zltR_49, zeq_49, zxl_49, zil_49, zmL_58, zmR_58, zaL_58, zaR_58, zleL_58, zleR_58, zltL_58, zltR_58, zeq_58, zxl_58, zil_58, zmL_99, zmR_99, zaL_99, zaR_99, zleL_99, zleR_99, zltL_99, zltR_99, zeq_99, zxl_99, zil_99, zmL_100, zmR_100, zaL_100, zaR_100, zleL_100, zleR_100, zltL_100, zltR_100, zeq_100, zxl_100, zil_100, zmL_107, zmR_107, zaL_107, zaR_107, zleL_107, zleR_107, zltL_107, zltR_107, zeq_107, zxl_107, zil_107, zmL_126, zmR_126, zaL_126, zaR_126, zleL_126, zleR_126, zltL_126, zltR_126, zeq_126, zxl_126, zil_126, zmL_1000, zmR_1000, zaL_1000, zaR_1000, zleL_1000, zleR_1000, zltL_1000, zltR_1000, zeq_1000, zxl_1000, zil_1000, zmL_1605, zmR_1605, zaL_1605, zaR_1605, zleL_1605, zleR_1605, zltL_1605, zltR_1605, zeq_1605, zxl_1605, zil_1605]
  rw [eb]
  simp (disch := omega) only [b1, zin_t, zx_nI, nI_add, nI_mul, znI_le, znI_lt, znI_eq, znI_neg, zgu_t, zgu_f, zbind_s, zlet_e, zb_eq0, zb_eq1, zb_t, zb_f, zleL_0, zleR_0, zltL_0, zltR_0, zeq_0, zxl_0, zil_0, zmL_1, zmR_1, zaL_1, zaR_1, zleL_1, zleR_1, zltL_1, zltR_1, zeq_1, zxl_1, zil_1, zmL_2, zmR_2, zaL_2, zaR_2, zleL_2, zleR_2, zltL_2, zltR_2, zeq_2, zxl_2, zil_2, zmL_3, zmR_3, zaL_3, zaR_3, zleL_3, zleR_3, zltL_3, zltR_3, zeq_3, zxl_3, zil_3, zmL_4, zmR_4, zaL_4, zaR_4, zleL_4, zleR_4, zltL_4, zltR_4, zeq_4, zxl_4, zil_4, zmL_5, zmR_5, zaL_5, zaR_5, zleL_5, zleR_5, zltL_5, zltR_5, zeq_5, zxl_5, zil_5, zmL_6, zmR_6, zaL_6, zaR_6, zleL_6, zleR_6, zltL_6, zltR_6, zeq_6, zxl_6, zil_6, zmL_7, zmR_7, zaL_7, zaR_7, zleL_7, zleR_7, zltL_7, zltR_7, zeq_7, zxl_7, zil_7, zmL_8, zmR_8, zaL_8, zaR_8, zleL_8, zleR_8, zltL_8, zltR_8, zeq_8, zxl_8, zil_8, zmL_9, zmR_9, zaL_9, zaR_9, zleL_9, zleR_9, zltL_9, zltR_9, zeq_9, zxl_9, zil_9, zmL_10, zmR_10, zaL_10, zaR_10, zleL_10, zleR_10, zltL_10, zltR_10, zeq_10, zxl_10, zil_10, zmL_14, zmR_14, zaL_14, zaR_14, zleL_14, zleR_14, zltL_14, zltR_14, zeq_14, zxl_14, zil_14, zmL_15, zmR_15, zaL_15, zaR_15, zleL_15, zleR_15, zltL_15, zltR_15, zeq_15, zxl_15, zil_15, zmL_16, zmR_16, zaL_16, zaR_16, zleL_16, zleR_16, zltL_16, zltR_16, zeq_16, zxl_16, zil_16, zmL_20, zmR_20, zaL_20, zaR_20, zleL_20, zleR_20, zltL_20, zltR_20, zeq_20, zxl_20, zil_20, zmL_22, zmR_22, zaL_22, zaR_22, zleL_22, zleR_22, zltL_22, zltR_22, zeq_22, zxl_22, zil_22, zmL_23, zmR_23, zaL_23, zaR_23, zleL_23, zleR_23, zltL_23, zltR_23, zeq_23, zxl_23, zil_23, zmL_24, zmR_24, zaL_24, zaR_24, zleL_24, zleR_24, zltL_24, zltR_24, zeq_24, zxl_24, zil_24, zmL_25, zmR_25, zaL_25, zaR_25, zleL_25, zleR_25, zltL_25, zltR_25, zeq_25, zxl_25, zil_25, zmL_26, zmR_26, zaL_26, zaR_26, zleL_26, zleR_26, zltL_26, zltR_26, zeq_26, zxl_26, zil_26, zmL_32, zmR_32, zaL_32, zaR_32, zleL_32, zleR_32, zltL_32, zltR_32, zeq_32, zxl_32, zil_32, zmL_40, zmR_40, zaL_40, zaR_40, zleL_40, zleR_40, zltL_40, zltR_40, zeq_40, zxl_40, zil_40, zmL_49, zmR_49, zaL_49, zaR_49, zleL_49, zleR_49, zltL_49, zltR_49, zeq_49, zxl_49, zil_49, zmL_58, zmR_58, zaL_58, zaR_58, zleL_58, zleR_58, zltL_58, zltR_58, zeq_58, zxl_58, zil_58, zmL_99, zmR_99, zaL_99, zaR_99, zleL_99, zleR_99, zltL_99, zltR_99, zeq_99, zxl_99, zil_99, zmL_100, zmR_100, zaL_100, zaR_100, zleL_100, zleR_100, zltL_100, zltR_100, zeq_100, zxl_100, zil_100, zmL_107, zmR_107, zaL_107, zaR_107, zleL_107, zleR_107, zltL_107, zltR_107, zeq_107, zxl_107, zil_107, zmL_126, zmR_126, zaL_126, zaR_126, zleL_126, zleR_126, zltL_126, zltR_126, zeq_126, zxl_126, zil_126, zmL_1000, zmR_1000, zaL_1000, zaR_1000, zleL_1000, zleR_1000, zltL_1000, zltR_1000, zeq_1000, zxl_1000, zil_1000, zmL_1605, zmR_1605, zaL_1605, zaR_1605, zleL_1605, zleR_1605, zltL_1605, zltR_1605, zeq_1605, zxl_1605, zil_1605]
  by_cases c : 16 ≤ top + 1
  · rw [if_pos c]; exact key 0 (by omega) (by omega)
  · rw [if_neg c]; exact key (top + 1) (by omega) (by omega)
theorem e_X3_bringBack {t : Nat} (hn : n ≤ 7) (H : PC n pc pS h) (ht : zT t = (6, 0)) (h75 : t + 3 < 73) : (pc = 0 ∧ g_X3_bringBack h 73 t = some (false, h)) ∨ (0 < pc ∧ ∃ h', g_X3_bringBack h 73 t = some (true, h') ∧ PC n (pc - 1) pS h' ∧ SC n (pS (pc - 1)) h' t ∧ zsm (fun a k => AO t a k ∨ a = 73) h h') := by
  obtain ⟨h1, top, h2, h3, h4, h5⟩ := H
  unfold g_X3_bringBack
  by_cases c : pc = 0
  · left
    refine ⟨c, ?_⟩
    rw [h4, c, if_pos (by decide)]
  · right
    refine ⟨by omega, ?_⟩
    have key : ∀ nt, nt < 16 → nt = (top + 15) % 16 → ∃ h', g_X3_bringBack_28 73 t (nI nt) h = some (true, h') ∧ PC n (pc - 1) pS h' ∧ SC n (pS (pc - 1)) h' t ∧ zsm (fun a k => AO t a k ∨ a = 73) h h' := by
      intro nt hnt ent
      obtain ⟨r1, r2⟩ := zring nt hnt
      have wz : zsm (fun a _ => a = 73) h (zpi h 73 1 (nI nt)) := zsm.pi rfl
      obtain ⟨hb, eb, kb, wb⟩ := e_X7_become (h := zpi h 73 1 (nI nt)) ht r1 (by omega)
      have b2 : hb.1 73 2 = nI pc := by rw [(wb _ _ (by unfold AO; omega)).1, zpi_r, if_neg (by omega)]; exact h4
      have b1 : hb.1 73 1 = nI nt := by rw [(wb _ _ (by unfold AO; omega)).1, zpi_r, if_pos ⟨rfl, rfl⟩]
      have wy : zsm (fun a _ => a = 73) hb (zpi hb 73 2 (nI (pc - 1))) := zsm.pi rfl
      refine ⟨zpi hb 73 2 (nI (pc - 1)), ?_, ⟨by omega, nt, hnt, ?_, ?_, ?_⟩, ?_, ((wz.mono (fun a b z => Or.inr z)).tr (wb.mono (fun a b z => Or.inl z))).tr (wy.mono (fun a b z => Or.inr z))⟩
      · unfold g_X3_bringBack_28
        simp (disch := omega) only [zlet_e, zpi_r, and_self, if_true, r2, zr_0_0, zr_0_1, zr_0_2, zr_0_3, zr_0_4, zr_0_5, zr_0_6, zr_0_7, zr_0_8, zr_1_0, zr_3_0, zr_3_1, zr_3_2, zr_3_3, zr_3_4, zr_3_5, zr_3_6, zr_10_0, zr_10_1, zr_13_0, zr_13_1, zr_13_4, zr_14_0, zr_14_1, zr_14_2, zr_14_3, zr_14_4, zr_14_5, zr_14_6, zr_21_0, zr_21_1, zr_24_0, zr_24_1, zr_24_2, zr_26_0, zr_26_1, zr_26_4, zr_27_0, zr_37_0, zr_37_1, zr_38_0, zr_44_0, zr_44_1, zr_44_2, zr_44_3, zr_45_0, zr_45_1, zr_52_0, zr_52_1, zr_59_0, zr_59_1, zr_66_0, zr_66_1, zr_73_0, zr_74_0, zr_74_1, zr_74_2, zr_74_3, zr_74_4, zr_74_5, zr_74_6, zr_74_7, zr_74_8, zr_74_9, zr_74_10, zr_74_11, zr_74_12, zr_74_13, zr_74_14, zr_74_15, zr_139_2, zr_139_10, zr_139_11, zr_139_12, zr_139_13, zr_139_14, zr_139_15, zr_139_16, zr_139_17, zr_139_18, zr_139_19, zr_139_20, zr_139_23, zr_139_24, zr_139_25, zr_139_26, zr_139_27, zr_139_28, zr_139_29, zr_139_30, zr_139_31, zr_139_32, zr_139_33, zr_139_34, zr_139_37, zr_139_38, zr_139_39, zr_139_40, zr_139_41, zr_139_42, zr_139_43, zr_139_44, zr_139_45, zr_139_46, zr_139_47, zr_139_48, zr_139_50, zin_t, zx_nI, nI_add, nI_mul, znI_le, znI_lt, znI_eq, znI_neg, zgu_t, zgu_f, zbind_s, zlet_e, zb_eq0, zb_eq1, zb_t, zb_f, zleL_0, zleR_0, zltL_0, zltR_0, zeq_0, zxl_0, zil_0, zmL_1, zmR_1, zaL_1, zaR_1, zleL_1, zleR_1, zltL_1, zltR_1, zeq_1, zxl_1, zil_1, zmL_2, zmR_2, zaL_2, zaR_2, zleL_2, zleR_2, zltL_2, zltR_2, zeq_2, zxl_2, zil_2, zmL_3, zmR_3, zaL_3, zaR_3, zleL_3, zleR_3, zltL_3, zltR_3, zeq_3, zxl_3, zil_3, zmL_4, zmR_4, zaL_4, zaR_4, zleL_4, zleR_4, zltL_4, zltR_4, zeq_4, zxl_4, zil_4, zmL_5, zmR_5, zaL_5, zaR_5, zleL_5, zleR_5, zltL_5, zltR_5, zeq_5, zxl_5, zil_5, zmL_6, zmR_6, zaL_6, zaR_6, zleL_6, zleR_6, zltL_6, zltR_6, zeq_6, zxl_6, zil_6, zmL_7, zmR_7, zaL_7, zaR_7, zleL_7, zleR_7, zltL_7, zltR_7, zeq_7, zxl_7, zil_7, zmL_8, zmR_8, zaL_8, zaR_8, zleL_8, zleR_8, zltL_8, zltR_8, zeq_8, zxl_8, zil_8, zmL_9, zmR_9, zaL_9, zaR_9, zleL_9, zleR_9, zltL_9, zltR_9, zeq_9, zxl_9, zil_9, zmL_10, zmR_10, zaL_10, zaR_10, zleL_10, zleR_10, zltL_10, zltR_10, zeq_10, zxl_10, zil_10, zmL_14, zmR_14, zaL_14, zaR_14, zleL_14, zleR_14, zltL_14, zltR_14, zeq_14, zxl_14, zil_14, zmL_15, zmR_15, zaL_15, zaR_15, zleL_15, zleR_15, zltL_15, zltR_15, zeq_15, zxl_15, zil_15, zmL_16, zmR_16, zaL_16, zaR_16, zleL_16, zleR_16, zltL_16, zltR_16, zeq_16, zxl_16, zil_16, zmL_20, zmR_20, zaL_20, zaR_20, zleL_20, zleR_20, zltL_20, zltR_20, zeq_20, zxl_20, zil_20, zmL_22, zmR_22, zaL_22, zaR_22, zleL_22, zleR_22, zltL_22, zltR_22, zeq_22, zxl_22, zil_22, zmL_23, zmR_23, zaL_23, zaR_23, zleL_23, zleR_23, zltL_23, zltR_23, zeq_23, zxl_23, zil_23, zmL_24, zmR_24, zaL_24, zaR_24, zleL_24, zleR_24, zltL_24, zltR_24, zeq_24, zxl_24, zil_24, zmL_25, zmR_25, zaL_25, zaR_25, zleL_25, zleR_25, zltL_25, zltR_25, zeq_25, zxl_25, zil_25, zmL_26, zmR_26, zaL_26, zaR_26, zleL_26, zleR_26, zltL_26, zltR_26, zeq_26, zxl_26, zil_26, zmL_32, zmR_32, zaL_32, zaR_32, zleL_32, zleR_32, zltL_32, zltR_32, zeq_32, zxl_32, zil_32, zmL_40, zmR_40, zaL_40, zaR_40, zleL_40, zleR_40, zltL_40, zltR_40, zeq_40, zxl_40, zil_40, zmL_49, zmR_49, zaL_49, zaR_49, zleL_49, zleR_49, zltL_49, zltR_49, zeq_49, zxl_49, zil_49, zmL_58, zmR_58, zaL_58, zaR_58, zleL_58, zleR_58, zltL_58, zltR_58, zeq_58, zxl_58, zil_58, zmL_99, zmR_99, zaL_99, zaR_99, zleL_99, zleR_99, zltL_99, zltR_99, zeq_99, zxl_99, zil_99, zmL_100, zmR_100, zaL_100, zaR_100, zleL_100, zleR_100, zltL_100, zltR_100, zeq_100, zxl_100, zil_100, zmL_107, zmR_107, zaL_107, zaR_107, zleL_107, zleR_107, zltL_107, zltR_107, zeq_107, zxl_107, zil_107, zmL_126, zmR_126, zaL_126, zaR_126, zleL_126, zleR_126, zltL_126, zltR_126, zeq_126, zxl_126, zil_126, zmL_1000, zmR_1000, zaL_1000, zaR_1000, zleL_1000, zleR_1000, zltL_1000, zltR_1000, zeq_1000, zxl_1000, zil_1000, zmL_1605, zmR_1605, zaL_1605, zaR_1605, zleL_1605, zleR_1605, zltL_1605, zltR_1605, zeq_1605, zxl_1605, zil_1605]
        rw [eb]
        simp only [zbind_s, b2, nI_s1 (show 0 < pc by omega)]
      · rw [zpi_r, if_neg (by omega)]; exact b1
      · rw [zpi_r, if_pos ⟨rfl, rfl⟩]
      · intro i hi
        rw [show (nt + 16 - (pc - 1) + i) % 16 = (top + 16 - pc + i) % 16 by omega]
        exact (((h5 i (by omega)).same wz (fun a b ha hb => by omega)).same wb (fun a b ha hb => by unfold AO; omega)).same wy (fun a b ha hb => by omega)
      · have := h5 (pc - 1) (by omega)
        rw [show (top + 16 - pc + (pc - 1)) % 16 = nt by omega] at this
        exact (kb hn (this.same wz (fun a b ha hb => by omega))).same wy (fun a b ha hb => by omega)
    rw [h4, if_neg (by rw [zeq_0 (by omega)]; exact c), h3]
    by_cases c2 : top = 0
    · rw [if_pos (by rw [c2]; decide)]; exact key 15 (by omega) (by omega)
    · rw [if_neg (by rw [zleR_0 (by omega)]; omega), nI_s1 (by omega)]; exact key (top - 1) (by omega) (by omega)
def AK : Nat → Nat → Prop := fun a k => a = 174 ∨ (a = 139 ∧ k = 49)
theorem e_X12_keeps (hn : n ≤ 7) (H : PM n pc pS h) (HS : SM n S h 171 0) : ∃ h', g_X12_keeps h 139 = some h' ∧ PM n (ipu pc pS S).1 (ipu pc pS S).2 h' ∧ zsm AK h h' := by
  obtain ⟨h1, h2, h3⟩ := H
  have key : ∀ {q : Nat} {qS : Nat → zSt} {hk : zH}, q < 16 → hk.1 139 49 = nI q → (∀ i, i < q → SM n (qS i) hk 174 (107 * i)) → zsm AK h hk → ∃ h', g_X12_keeps_49 139 hk = some h' ∧ PM n (q + 1) (fun i => if i = q then S else qS i) h' ∧ zsm AK h h' := by
    intro q qS hk hq e1 k1 w1
    have HS' : SM n S hk 171 0 := HS.same w1 (fun k => by unfold AK; omega)
    obtain ⟨hc, ec, kc, wc⟩ := e_X12_copies (h := hk) (a := 171) (b := 174) (x := 0) (y := 107 * q) (n0 := 107) (n2 := 1712) (by decide) (by omega) (by omega) (by omega) (by omega)
    have b1 : hc.1 139 49 = nI q := by rw [(wc _ _ (by unfold AR; omega)).1]; exact e1
    have wz : zsm (fun a k => a = 139 ∧ k = 49) hc (zpi hc 139 49 (nI (q + 1))) := zsm.pi ⟨rfl, rfl⟩
    refine ⟨zpi hc 139 49 (nI (q + 1)), ?_, ⟨by omega, ?_, ?_⟩, (w1.tr (wc.mono (fun a b z => by unfold AR at z; unfold AK; omega))).tr (wz.mono (fun a b z => by unfold AK; omega))⟩
    · unfold g_X12_keeps_49
      rw [e1]
      have e2 : (107 : Int32) * nI q = nI (107 * q) := zmL_107 q
      rw [e2]
      simp only [zr_0_0, zr_0_1, zr_0_2, zr_0_3, zr_0_4, zr_0_5, zr_0_6, zr_0_7, zr_0_8, zr_1_0, zr_3_0, zr_3_1, zr_3_2, zr_3_3, zr_3_4, zr_3_5, zr_3_6, zr_10_0, zr_10_1, zr_13_0, zr_13_1, zr_13_4, zr_14_0, zr_14_1, zr_14_2, zr_14_3, zr_14_4, zr_14_5, zr_14_6, zr_21_0, zr_21_1, zr_24_0, zr_24_1, zr_24_2, zr_26_0, zr_26_1, zr_26_4, zr_27_0, zr_37_0, zr_37_1, zr_38_0, zr_44_0, zr_44_1, zr_44_2, zr_44_3, zr_45_0, zr_45_1, zr_52_0, zr_52_1, zr_59_0, zr_59_1, zr_66_0, zr_66_1, zr_73_0, zr_74_0, zr_74_1, zr_74_2, zr_74_3, zr_74_4, zr_74_5, zr_74_6, zr_74_7, zr_74_8, zr_74_9, zr_74_10, zr_74_11, zr_74_12, zr_74_13, zr_74_14, zr_74_15, zr_139_2, zr_139_10, zr_139_11, zr_139_12, zr_139_13, zr_139_14, zr_139_15, zr_139_16, zr_139_17, zr_139_18, zr_139_19, zr_139_20, zr_139_23, zr_139_24, zr_139_25, zr_139_26, zr_139_27, zr_139_28, zr_139_29, zr_139_30, zr_139_31, zr_139_32, zr_139_33, zr_139_34, zr_139_37, zr_139_38, zr_139_39, zr_139_40, zr_139_41, zr_139_42, zr_139_43, zr_139_44, zr_139_45, zr_139_46, zr_139_47, zr_139_48, zr_139_50]
      have ec : g_X12_copies hk 171 107 0 174 1712 (nI (107 * q)) = some hc := ec
      rw [ec]
      simp only [zbind_s, zlet_e, b1, nI_1]
    · rw [zpi_r, if_pos ⟨rfl, rfl⟩]
    · intro i hi
      show SM n (if i = q then S else qS i) _ _ _
      by_cases c : i = q
      · rw [if_pos c, c]
        exact (HS'.copy hn kc).same wz (fun k z => by omega)
      · rw [if_neg c]
        exact ((k1 i (by omega)).sameR hn wc (fun k a b => by unfold AR; omega)).same wz (fun k z => by omega)
  unfold g_X12_keeps ipu
  rw [h2]
  by_cases c : pc = 16
  · rw [if_pos (by rw [c]; rfl)]
    simp only [if_pos c]
    obtain ⟨h', m, e, ⟨k4, k5, w1⟩⟩ := zloopH (L := fun f i (_ : Unit) h => g_X12_keeps_11 139 f i h) (N := 1605) (f := fun _ s => s) (fun i _ h1 => (∀ k, k < i → h1.1 174 k = h.1 174 (k + 107)) ∧ (∀ k, i ≤ k → h1.1 174 k = h.1 174 k) ∧ zsm (fun a _ => a = 174) h h1)
      (by
        intro f i s h1 hi ⟨k1, k2, w1⟩
        show ∃ h', g_X12_keeps_11 139 (f + 1) (nI i) h1 = g_X12_keeps_11 139 f (nI (i + 1)) h' ∧ _
        rw [g_X12_keeps_11]
        simp (disch := omega) only [zr_0_0, zr_0_1, zr_0_2, zr_0_3, zr_0_4, zr_0_5, zr_0_6, zr_0_7, zr_0_8, zr_1_0, zr_3_0, zr_3_1, zr_3_2, zr_3_3, zr_3_4, zr_3_5, zr_3_6, zr_10_0, zr_10_1, zr_13_0, zr_13_1, zr_13_4, zr_14_0, zr_14_1, zr_14_2, zr_14_3, zr_14_4, zr_14_5, zr_14_6, zr_21_0, zr_21_1, zr_24_0, zr_24_1, zr_24_2, zr_26_0, zr_26_1, zr_26_4, zr_27_0, zr_37_0, zr_37_1, zr_38_0, zr_44_0, zr_44_1, zr_44_2, zr_44_3, zr_45_0, zr_45_1, zr_52_0, zr_52_1, zr_59_0, zr_59_1, zr_66_0, zr_66_1, zr_73_0, zr_74_0, zr_74_1, zr_74_2, zr_74_3, zr_74_4, zr_74_5, zr_74_6, zr_74_7, zr_74_8, zr_74_9, zr_74_10, zr_74_11, zr_74_12, zr_74_13, zr_74_14, zr_74_15, zr_139_2, zr_139_10, zr_139_11, zr_139_12, zr_139_13, zr_139_14, zr_139_15, zr_139_16, zr_139_17, zr_139_18, zr_139_19, zr_139_20, zr_139_23, zr_139_24, zr_139_25, zr_139_26, zr_139_27, zr_139_28, zr_139_29, zr_139_30, zr_139_31, zr_139_32, zr_139_33, zr_139_34, zr_139_37, zr_139_38, zr_139_39, zr_139_40, zr_139_41, zr_139_42, zr_139_43, zr_139_44, zr_139_45, zr_139_46, zr_139_47, zr_139_48, zr_139_50, zin_t, zx_nI, nI_add, nI_mul, znI_le, znI_lt, znI_eq, znI_neg, zgu_t, zgu_f, zbind_s, zlet_e, zb_eq0, zb_eq1, zb_t, zb_f, zleL_0, zleR_0, zltL_0, zltR_0, zeq_0, zxl_0, zil_0, zmL_1, zmR_1, zaL_1, zaR_1, zleL_1, zleR_1, zltL_1, zltR_1, zeq_1, zxl_1, zil_1, zmL_2, zmR_2, zaL_2, zaR_2, zleL_2, zleR_2, zltL_2, zltR_2, zeq_2, zxl_2, zil_2, zmL_3, zmR_3, zaL_3, zaR_3, zleL_3, zleR_3, zltL_3, zltR_3, zeq_3, zxl_3, zil_3, zmL_4, zmR_4, zaL_4, zaR_4, zleL_4, zleR_4, zltL_4, zltR_4, zeq_4, zxl_4, zil_4, zmL_5, zmR_5, zaL_5, zaR_5, zleL_5, zleR_5, zltL_5, zltR_5, zeq_5, zxl_5, zil_5, zmL_6, zmR_6, zaL_6, zaR_6, zleL_6, zleR_6, zltL_6, zltR_6, zeq_6, zxl_6, zil_6, zmL_7, zmR_7, zaL_7, zaR_7, zleL_7, zleR_7, zltL_7, zltR_7, zeq_7, zxl_7, zil_7, zmL_8, zmR_8, zaL_8, zaR_8, zleL_8, zleR_8, zltL_8, zltR_8, zeq_8, zxl_8, zil_8, zmL_9, zmR_9, zaL_9, zaR_9, zleL_9, zleR_9, zltL_9, zltR_9, zeq_9, zxl_9, zil_9, zmL_10, zmR_10, zaL_10, zaR_10, zleL_10, zleR_10, zltL_10, zltR_10, zeq_10, zxl_10, zil_10, zmL_14, zmR_14, zaL_14, zaR_14, zleL_14, zleR_14, zltL_14, zltR_14, zeq_14, zxl_14, zil_14, zmL_15, zmR_15, zaL_15, zaR_15, zleL_15, zleR_15, zltL_15, zltR_15, zeq_15, zxl_15, zil_15, zmL_16, zmR_16, zaL_16, zaR_16, zleL_16, zleR_16, zltL_16, zltR_16, zeq_16, zxl_16, zil_16, zmL_20, zmR_20, zaL_20, zaR_20, zleL_20, zleR_20, zltL_20, zltR_20, zeq_20, zxl_20, zil_20, zmL_22, zmR_22, zaL_22, zaR_22, zleL_22, zleR_22, zltL_22, zltR_22, zeq_22, zxl_22, zil_22, zmL_23, zmR_23, zaL_23, zaR_23, zleL_23, zleR_23, zltL_23, zltR_23, zeq_23, zxl_23, zil_23, zmL_24, zmR_24, zaL_24, zaR_24, zleL_24, zleR_24, zltL_24, zltR_24, zeq_24, zxl_24, zil_24, zmL_25, zmR_25, zaL_25, zaR_25, zleL_25, zleR_25, zltL_25, zltR_25, zeq_25, zxl_25, zil_25, zmL_26, zmR_26, zaL_26, zaR_26, zleL_26, zleR_26, zltL_26, zltR_26, zeq_26, zxl_26, zil_26, zmL_32, zmR_32, zaL_32, zaR_32, zleL_32, zleR_32, zltL_32, zltR_32, zeq_32, zxl_32, zil_32, zmL_40, zmR_40, zaL_40, zaR_40, zleL_40, zleR_40, zltL_40, zltR_40, zeq_40, zxl_40, zil_40, zmL_49, zmR_49, zaL_49, zaR_49, zleL_49, zleR_49, zltL_49, zltR_49, zeq_49, zxl_49, zil_49, zmL_58, zmR_58, zaL_58, zaR_58, zleL_58, zleR_58, zltL_58, zltR_58, zeq_58, zxl_58, zil_58, zmL_99, zmR_99, zaL_99, zaR_99, zleL_99, zleR_99, zltL_99, zltR_99, zeq_99, zxl_99, zil_99, zmL_100, zmR_100, zaL_100, zaR_100, zleL_100, zleR_100, zltL_100, zltR_100, zeq_100, zxl_100, zil_100, zmL_107, zmR_107, zaL_107, zaR_107, zleL_107, zleR_107, zltL_107, zltR_107, zeq_107, zxl_107, zil_107, zmL_126, zmR_126, zaL_126, zaR_126, zleL_126, zleR_126, zltL_126, zltR_126, zeq_126, zxl_126, zil_126, zmL_1000, zmR_1000, zaL_1000, zaR_1000, zleL_1000, zleR_1000, zltL_1000, zltR_1000, zeq_1000, zxl_1000, zil_1000, zmL_1605, zmR_1605, zaL_1605, zaR_1605, zleL_1605, zleR_1605, zltL_1605, zltR_1605, zeq_1605, zxl_1605, zil_1605]
        rw [if_neg (by omega), k2 (i + 107) (by omega)]
        refine ⟨_, rfl, fun k hk => ?_, fun k hk => ?_, w1.tr (zsm.pi rfl)⟩
        · rw [zpi_r]
          by_cases c : k = i
          · rw [if_pos ⟨rfl, c⟩, c]
          · rw [if_neg (by omega)]; exact k1 k (by omega)
        · rw [zpi_r, if_neg (by omega)]; exact k2 k (by omega))
      1605 0 () zfu h (by omega) (by decide) ⟨fun k hk => by omega, fun k hk => rfl, zsm.rf⟩
    have b1 : h'.1 139 49 = nI 16 := by rw [(w1 139 49 (by omega)).1, h2, c]
    have wz : zsm AK h (zpi h' 139 49 (nI 15)) := (w1.mono (fun a b z => by unfold AK; omega)).tr (zsm.pi (by unfold AK; omega))
    obtain ⟨h9, e9, k9, w9⟩ := key (q := 15) (qS := fun i => pS (i + 1)) (hk := zpi h' 139 49 (nI 15)) (by omega) (by rw [zpi_r, if_pos ⟨rfl, rfl⟩]) (by
      intro i hi
      have h0 := h3 (i + 1) (by omega)
      refine h0.copy hn (fun k hk => ?_)
      rw [zpi_r, if_neg (by omega), k4 _ (by omega), show 107 * i + k + 107 = 107 * (i + 1) + k by omega]) wz
    refine ⟨h9, ?_, k9, w9⟩
    refine Eq.trans e ?_
    show g_X12_keeps_11 139 (m + 1) (nI 1605) h' = _
    rw [g_X12_keeps_11]
    simp (disch := omega) only [b1, zin_t, zx_nI, nI_add, nI_mul, znI_le, znI_lt, znI_eq, znI_neg, zgu_t, zgu_f, zbind_s, zlet_e, zb_eq0, zb_eq1, zb_t, zb_f, zleL_0, zleR_0, zltL_0, zltR_0, zeq_0, zxl_0, zil_0, zmL_1, zmR_1, zaL_1, zaR_1, zleL_1, zleR_1, zltL_1, zltR_1, zeq_1, zxl_1, zil_1, zmL_2, zmR_2, zaL_2, zaR_2, zleL_2, zleR_2, zltL_2, zltR_2, zeq_2, zxl_2, zil_2, zmL_3, zmR_3, zaL_3, zaR_3, zleL_3, zleR_3, zltL_3, zltR_3, zeq_3, zxl_3, zil_3, zmL_4, zmR_4, zaL_4, zaR_4, zleL_4, zleR_4, zltL_4, zltR_4, zeq_4, zxl_4, zil_4, zmL_5, zmR_5, zaL_5, zaR_5, zleL_5, zleR_5, zltL_5, zltR_5, zeq_5, zxl_5, zil_5, zmL_6, zmR_6, zaL_6, zaR_6, zleL_6, zleR_6, zltL_6, zltR_6, zeq_6, zxl_6, zil_6, zmL_7, zmR_7, zaL_7, zaR_7, zleL_7, zleR_7, zltL_7, zltR_7, zeq_7, zxl_7, zil_7, zmL_8, zmR_8, zaL_8, zaR_8, zleL_8, zleR_8, zltL_8, zltR_8, zeq_8, zxl_8, zil_8, zmL_9, zmR_9, zaL_9, zaR_9, zleL_9, zleR_9, zltL_9, zltR_9, zeq_9, zxl_9, zil_9, zmL_10, zmR_10, zaL_10, zaR_10, zleL_10, zleR_10, zltL_10, zltR_10, zeq_10, zxl_10, zil_10, zmL_14, zmR_14, zaL_14, zaR_14, zleL_14, zleR_14, zltL_14, zltR_14, zeq_14, zxl_14, zil_14, zmL_15, zmR_15, zaL_15, zaR_15, zleL_15, zleR_15, zltL_15, zltR_15, zeq_15, zxl_15, zil_15, zmL_16, zmR_16, zaL_16, zaR_16, zleL_16, zleR_16, zltL_16, zltR_16, zeq_16, zxl_16, zil_16, zmL_20, zmR_20, zaL_20, zaR_20, zleL_20, zleR_20, zltL_20, zltR_20, zeq_20, zxl_20, zil_20, zmL_22, zmR_22, zaL_22, zaR_22, zleL_22, zleR_22, zltL_22, zltR_22, zeq_22, zxl_22, zil_22, zmL_23, zmR_23, zaL_23, zaR_23, zleL_23, zleR_23, zltL_23, zltR_23, zeq_23, zxl_23, zil_23, zmL_24, zmR_24, zaL_24, zaR_24, zleL_24, zleR_24, zltL_24, zltR_24, zeq_24, zxl_24, zil_24, zmL_25, zmR_25, zaL_25, zaR_25, zleL_25, zleR_25, zltL_25, zltR_25, zeq_25, zxl_25, zil_25, zmL_26, zmR_26, zaL_26, zaR_26, zleL_26, zleR_26, zltL_26, zltR_26, zeq_26, zxl_26, zil_26, zmL_32, zmR_32, zaL_32, zaR_32, zleL_32, zleR_32, zltL_32, zltR_32, zeq_32, zxl_32, zil_32, zmL_40, zmR_40, zaL_40, zaR_40, zleL_40, zleR_40, zltL_40, zltR_40, zeq_40, zxl_40, zil_40, zmL_49, zmR_49, zaL_49, zaR_49, zleL_49, zleR_49, zltL_49, zltR_49, zeq_49, zxl_49, zil_49, zmL_58, zmR_58, zaL_58, zaR_58, zleL_58, zleR_58, zltL_58, zltR_58, zeq_58, zxl_58, zil_58, zmL_99, zmR_99, zaL_99, zaR_99, zleL_99, zleR_99, zltL_99, zltR_99, zeq_99, zxl_99, zil_99, zmL_100, zmR_100, zaL_100, zaR_100, zleL_100, zleR_100, zltL_100, zltR_100, zeq_100, zxl_100, zil_100, zmL_107, zmR_107, zaL_107, zaR_107, zleL_107, zleR_107, zltL_107, zltR_107, zeq_107, zxl_107, zil_107, zmL_126, zmR_126, zaL_126, zaR_126, zleL_126, zleR_126, zltL_126, zltR_126, zeq_126, zxl_126, zil_126, zmL_1000, zmR_1000, zaL_1000, zaR_1000, zleL_1000, zleR_1000, zltL_1000, zltR_1000, zeq_1000, zxl_1000, zil_1000, zmL_1605, zmR_1605, zaL_1605, zaR_1605, zleL_1605, zleR_1605, zltL_1605, zltR_1605, zeq_1605, zxl_1605, zil_1605]
    rw [if_pos (Nat.le_refl _), nI_s1 (by omega)]
    exact e9
  · rw [if_neg (by rw [zeq_16 (by omega)]; exact c)]
    simp only [if_neg c]
    exact key (by omega) h2 h3 zsm.rf
end K1
