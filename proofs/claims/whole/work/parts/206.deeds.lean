/-! deeds: death, laws, tax, gift, day -/
section P1
variable {S : zSt} {h : zH} {t n : Nat}
theorem SC.pg (H : SC n S h t) (k v : Nat) : SC n (zu (sg S) k v, sc S, sv S, sa S, sd S) (zpi h (t + 1) k (nI v)) t := by
  obtain ⟨h1, h2, h3, h4, h5⟩ := H
  refine ⟨fun j hj => ?_, fun j hj => ?_, fun j hj => ?_, ?_, ?_⟩
  · rw [zpi_r]; show _ = nI (zu _ _ _ j)
    by_cases c : j = k
    · rw [if_pos ⟨rfl, c⟩, c, zu_s]
    · rw [if_neg (by omega), zu_n c]; exact h1 j hj
  · rw [zpi_r, if_neg (by omega)]; exact h2 j hj
  · rw [zpi_r, if_neg (by omega)]; exact h3 j hj
  · rw [zpi_r, if_neg (by omega)]; exact h4
  · rw [zpi_r, if_neg (by omega)]; exact h5
theorem SC.pv (H : SC n S h t) (k v : Nat) : SC n (sg S, sc S, zu (sv S) k v, sa S, sd S) (zpi h (t + 3) k (nI v)) t := by
  obtain ⟨h1, h2, h3, h4, h5⟩ := H
  refine ⟨fun j hj => ?_, fun j hj => ?_, fun j hj => ?_, ?_, ?_⟩
  · rw [zpi_r, if_neg (by omega)]; exact h1 j hj
  · rw [zpi_r, if_neg (by omega)]; exact h2 j hj
  · rw [zpi_r]; show _ = nI (zu _ _ _ j)
    by_cases c : j = k
    · rw [if_pos ⟨rfl, c⟩, c, zu_s]
    · rw [if_neg (by omega), zu_n c]; exact h3 j hj
  · rw [zpi_r, if_neg (by omega)]; exact h4
  · rw [zpi_r, if_neg (by omega)]; exact h5
theorem SC.pa (H : SC n S h t) (v : Nat) : SC n (sg S, sc S, sv S, v, sd S) (zpi h t 4 (nI v)) t := by
  obtain ⟨h1, h2, h3, h4, h5⟩ := H
  refine ⟨fun j hj => ?_, fun j hj => ?_, fun j hj => ?_, ?_, ?_⟩
  · rw [zpi_r, if_neg (by omega)]; exact h1 j hj
  · rw [zpi_r, if_neg (by omega)]; exact h2 j hj
  · rw [zpi_r, if_neg (by omega)]; exact h3 j hj
  · rw [zpi_r, if_pos ⟨rfl, rfl⟩]
  · rw [zpi_r, if_neg (by omega)]; exact h5
theorem SC.pd (H : SC n S h t) (v : Nat) : SC n (sg S, sc S, sv S, sa S, v) (zpi h t 5 (nI v)) t := by
  obtain ⟨h1, h2, h3, h4, h5⟩ := H
  refine ⟨fun j hj => ?_, fun j hj => ?_, fun j hj => ?_, ?_, ?_⟩
  · rw [zpi_r, if_neg (by omega)]; exact h1 j hj
  · rw [zpi_r, if_neg (by omega)]; exact h2 j hj
  · rw [zpi_r, if_neg (by omega)]; exact h3 j hj
  · rw [zpi_r, if_neg (by omega)]; exact h4
  · rw [zpi_r, if_pos ⟨rfl, rfl⟩]
theorem SM.pg (H : SM n S h 171 0) (hn : n ≤ 7) {p q : Nat} (hp : p < 7) (hq : q < 7) (v : Nat) : SM n (zu (sg S) (p * 7 + q) v, sc S, sv S, sa S, sd S) (zpi h 171 (9 + 7 * p + q) (nI v)) 171 0 := by
  obtain ⟨h1, h2, h3, h4, h5⟩ := H
  refine ⟨fun j hj => ?_, fun j hj => ?_, fun j hj => ?_, ?_, ?_⟩
  · rw [zpi_r]; show _ = nI (zu _ _ _ j)
    by_cases c : j = p * 7 + q
    · rw [if_pos ⟨rfl, by omega⟩, c, zu_s]
    · rw [if_neg (by omega), zu_n c]; exact h1 j hj
  · rw [zpi_r, if_neg (by omega)]; exact h2 j hj
  · rw [zpi_r, if_neg (by omega)]; exact h3 j hj
  · rw [zpi_r, if_neg (by omega)]; exact h4
  · rw [zpi_r, if_neg (by omega)]; exact h5
theorem SM.pv (H : SM n S h 171 0) (hn : n ≤ 7) {k : Nat} (hk : k < 7) (v : Nat) : SM n (sg S, sc S, zu (sv S) k v, sa S, sd S) (zpi h 171 (2 + k) (nI v)) 171 0 := by
  obtain ⟨h1, h2, h3, h4, h5⟩ := H
  refine ⟨fun j hj => ?_, fun j hj => ?_, fun j hj => ?_, ?_, ?_⟩
  · rw [zpi_r, if_neg (by omega)]; exact h1 j hj
  · rw [zpi_r, if_neg (by omega)]; exact h2 j hj
  · rw [zpi_r]; show _ = nI (zu _ _ _ j)
    by_cases c : j = k
    · rw [if_pos ⟨rfl, by omega⟩, c, zu_s]
    · rw [if_neg (by omega), zu_n c]; exact h3 j hj
  · rw [zpi_r, if_neg (by omega)]; exact h4
  · rw [zpi_r, if_neg (by omega)]; exact h5
theorem SM.pa (H : SM n S h 171 0) (v : Nat) : SM n (sg S, sc S, sv S, v, sd S) (zpi h 171 1 (nI v)) 171 0 := by
  obtain ⟨h1, h2, h3, h4, h5⟩ := H
  refine ⟨fun j hj => ?_, fun j hj => ?_, fun j hj => ?_, ?_, ?_⟩
  · rw [zpi_r, if_neg (by omega)]; exact h1 j hj
  · rw [zpi_r, if_neg (by omega)]; exact h2 j hj
  · rw [zpi_r, if_neg (by omega)]; exact h3 j hj
  · rw [zpi_r, if_pos ⟨rfl, rfl⟩]
  · rw [zpi_r, if_neg (by omega)]; exact h5
theorem SM.pd (H : SM n S h 171 0) (v : Nat) : SM n (sg S, sc S, sv S, sa S, v) (zpi h 171 0 (nI v)) 171 0 := by
  obtain ⟨h1, h2, h3, h4, h5⟩ := H
  refine ⟨fun j hj => ?_, fun j hj => ?_, fun j hj => ?_, ?_, ?_⟩
  · rw [zpi_r, if_neg (by omega)]; exact h1 j hj
  · rw [zpi_r, if_neg (by omega)]; exact h2 j hj
  · rw [zpi_r, if_neg (by omega)]; exact h3 j hj
  · rw [zpi_r, if_neg (by omega)]; exact h4
  · rw [zpi_r, if_pos ⟨rfl, rfl⟩]
end P1
def clr (a p : Nat) : Nat := if a.testBit p then a - 2 ^ p else a
theorem clr_ok : ∀ a, a < 128 → ∀ p, p < 7 → (nI a &&& (((1 : Int32) <<< (nI p &&& 31)) ^^^ (-1)) = nI (clr a p)) ∧ (∀ q, q < 7 → (clr a p).testBit q = (a.testBit q && !(decide (q = p)))) := by decide +kernel
theorem clr_le (a p : Nat) : clr a p ≤ a := by
  unfold clr
  split
  · exact Nat.sub_le _ _
  · exact Nat.le_refl _
/-- a death: how it is then, and the votes that went on -/
def ibu (R : zRp) (S : zSt) (p : Nat) : zSt × Nat := match rh R p with
  | none => ((sg S, sc S, zu (sv S) p 0, clr (sa S) p, sd S), 0)
  | some q => if (clr (sa S) p).testBit q then ((sg S, sc S, zu (zu (sv S) p 0) q (sv S q + sv S p), clr (sa S) p, sd S), sv S p) else ((sg S, sc S, zu (sv S) p 0, clr (sa S) p, sd S), 0)
section D1
variable {R : zRp} {S : zSt} {h : zH} {t : Nat}
theorem SI_ibu (hR : RI R) (H : SI (rn R) S) {p : Nat} (hp : p < rn R) : SI (rn R) (ibu R S p).1 := by
  obtain ⟨h1, h2, h3, h4⟩ := H
  have a0 := zsum_zu (f := sv S) (k := p) (v := 0) hp
  have hl : clr (sa S) p < 2 ^ rn R := Nat.lt_of_le_of_lt (clr_le _ _) h1
  unfold ibu
  split
  · exact ⟨hl, h2, h3, by show zsum (zu (sv S) p 0) _ + zsum (sc S) 49 ≤ _; omega⟩
  · rename_i q hq
    obtain ⟨hq1, hq2⟩ := (hR.2.1 p hp).2.2.2 q hq
    split
    · refine ⟨hl, h2, h3, ?_⟩
      show zsum (zu (zu (sv S) p 0) q (sv S q + sv S p)) _ + zsum (sc S) 49 ≤ _
      have a1 := zsum_zu (f := zu (sv S) p 0) (k := q) (v := sv S q + sv S p) hq1
      rw [zu_n hq2] at a1
      omega
    · exact ⟨hl, h2, h3, by show zsum (zu (sv S) p 0) _ + zsum (sc S) 49 ≤ _; omega⟩
theorem e_X7_bury (H : CS R S h t) {p : Nat} (hp : p < rn R) : ∃ h', g_X7_bury h t (nI p) = some (nI (ibu R S p).2, h') ∧ CS R (ibu R S p).1 h' t ∧ zsm (AT t) h h' := by
  have hn := H.n7
  have ht := zst H.2.2.1
  have hlt := H.2.1.lt hn
  obtain ⟨k1, k2⟩ := clr_ok (sa S) hlt p (by omega)
  have hI := SI_ibu H.1 H.2.1 hp
  have w1 : zsm (AT t) h (zpi h (t + 3) p (nI 0)) := zsm.pi (by unfold AT; omega)
  have w2 : zsm (AT t) h (zpi (zpi h (t + 3) p (nI 0)) t 4 (nI (clr (sa S) p))) := w1.tr (zsm.pi (by unfold AT; omega))
  have s2 := (H.2.2.2.2.pv p 0).pa (clr (sa S) p)
  rw [show nI 0 = (0 : Int32) from rfl] at w1 w2 s2
  have hA : ∀ {q : Nat}, q < 7 → g_X7_isAlive (zpi (zpi h (t + 3) p 0) t 4 (nI (clr (sa S) p))) t (nI q) = some ((clr (sa S) p).testBit q) := fun {q} hq => e_X7_isAlive (R := R) (S := (sg S, sc S, zu (sv S) p 0, clr (sa S) p, sd S)) ⟨H.1, by
      obtain ⟨h1, h2, h3, h4⟩ := H.2.1
      have a0 := zsum_zu (f := sv S) (k := p) (v := 0) hp
      exact ⟨Nat.lt_of_le_of_lt (clr_le _ _) h1, h2, h3, by show zsum (zu (sv S) p 0) _ + zsum (sc S) 49 ≤ _; omega⟩, H.2.2.1, H.2.2.2.1.same w2 (fun a b ha => by unfold AT; omega), s2⟩ hq
  unfold g_X7_bury
  simp (disch := omega) only [H.e0, H.e3, H.v, H.hr, H.a, zpi_r, zr_0_0, zr_0_1, zr_0_2, zr_0_3, zr_0_4, zr_0_5, zr_0_6, zr_0_7, zr_0_8, zr_1_0, zr_3_0, zr_3_1, zr_3_2, zr_3_3, zr_3_4, zr_3_5, zr_3_6, zr_10_0, zr_10_1, zr_13_0, zr_13_1, zr_13_4, zr_14_0, zr_14_1, zr_14_2, zr_14_3, zr_14_4, zr_14_5, zr_14_6, zr_21_0, zr_21_1, zr_24_0, zr_24_1, zr_24_2, zr_26_0, zr_26_1, zr_26_4, zr_27_0, zr_37_0, zr_37_1, zr_38_0, zr_44_0, zr_44_1, zr_44_2, zr_44_3, zr_45_0, zr_45_1, zr_52_0, zr_52_1, zr_59_0, zr_59_1, zr_66_0, zr_66_1, zr_73_0, zr_74_0, zr_74_1, zr_74_2, zr_74_3, zr_74_4, zr_74_5, zr_74_6, zr_74_7, zr_74_8, zr_74_9, zr_74_10, zr_74_11, zr_74_12, zr_74_13, zr_74_14, zr_74_15, zr_139_2, zr_139_10, zr_139_11, zr_139_12, zr_139_13, zr_139_14, zr_139_15, zr_139_16, zr_139_17, zr_139_18, zr_139_19, zr_139_20, zr_139_23, zr_139_24, zr_139_25, zr_139_26, zr_139_27, zr_139_28, zr_139_29, zr_139_30, zr_139_31, zr_139_32, zr_139_33, zr_139_34, zr_139_37, zr_139_38, zr_139_39, zr_139_40, zr_139_41, zr_139_42, zr_139_43, zr_139_44, zr_139_45, zr_139_46, zr_139_47, zr_139_48, zr_139_50, zin_t, zx_nI, nI_add, nI_mul, znI_le, znI_lt, znI_eq, znI_neg, zgu_t, zgu_f, zbind_s, zlet_e, zb_eq0, zb_eq1, zb_t, zb_f, zleL_0, zleR_0, zltL_0, zltR_0, zeq_0, zxl_0, zil_0, zmL_1, zmR_1, zaL_1, zaR_1, zleL_1, zleR_1, zltL_1, zltR_1, zeq_1, zxl_1, zil_1, zmL_2, zmR_2, zaL_2, zaR_2, zleL_2, zleR_2, zltL_2, zltR_2, zeq_2, zxl_2, zil_2, zmL_3, zmR_3, zaL_3, zaR_3, zleL_3, zleR_3, zltL_3, zltR_3, zeq_3, zxl_3, zil_3, zmL_4, zmR_4, zaL_4, zaR_4, zleL_4, zleR_4, zltL_4, zltR_4, zeq_4, zxl_4, zil_4, zmL_5, zmR_5, zaL_5, zaR_5, zleL_5, zleR_5, zltL_5, zltR_5, zeq_5, zxl_5, zil_5, zmL_6, zmR_6, zaL_6, zaR_6, zleL_6, zleR_6, zltL_6, zltR_6, zeq_6, zxl_6, zil_6, zmL_7, zmR_7, zaL_7, zaR_7, zleL_7, zleR_7, zltL_7, zltR_7, zeq_7, zxl_7, zil_7, zmL_8, zmR_8, zaL_8, zaR_8, zleL_8, zleR_8, zltL_8, zltR_8, zeq_8, zxl_8, zil_8, zmL_9, zmR_9, zaL_9, zaR_9, zleL_9, zleR_9, zltL_9, zltR_9, zeq_9, zxl_9, zil_9, zmL_10, zmR_10, zaL_10, zaR_10, zleL_10, zleR_10, zltL_10, zltR_10, zeq_10, zxl_10, zil_10, zmL_14, zmR_14, zaL_14, zaR_14, zleL_14, zleR_14, zltL_14, zltR_14, zeq_14, zxl_14, zil_14, zmL_15, zmR_15, zaL_15, zaR_15, zleL_15, zleR_15, zltL_15, zltR_15, zeq_15, zxl_15, zil_15, zmL_16, zmR_16, zaL_16, zaR_16, zleL_16, zleR_16, zltL_16, zltR_16, zeq_16, zxl_16, zil_16, zmL_20, zmR_20, zaL_20, zaR_20, zleL_20, zleR_20, zltL_20, zltR_20, zeq_20, zxl_20, zil_20, zmL_22, zmR_22, zaL_22, zaR_22, zleL_22, zleR_22, zltL_22, zltR_22, zeq_22, zxl_22, zil_22, zmL_23, zmR_23, zaL_23, zaR_23, zleL_23, zleR_23, zltL_23, zltR_23, zeq_23, zxl_23, zil_23, zmL_24, zmR_24, zaL_24, zaR_24, zleL_24, zleR_24, zltL_24, zltR_24, zeq_24, zxl_24, zil_24, zmL_25, zmR_25, zaL_25, zaR_25, zleL_25, zleR_25, zltL_25, zltR_25, zeq_25, zxl_25, zil_25, zmL_26, zmR_26, zaL_26, zaR_26, zleL_26, zleR_26, zltL_26, zltR_26, zeq_26, zxl_26, zil_26, zmL_32, zmR_32, zaL_32, zaR_32, zleL_32, zleR_32, zltL_32, zltR_32, zeq_32, zxl_32, zil_32, zmL_40, zmR_40, zaL_40, zaR_40, zleL_40, zleR_40, zltL_40, zltR_40, zeq_40, zxl_40, zil_40, zmL_49, zmR_49, zaL_49, zaR_49, zleL_49, zleR_49, zltL_49, zltR_49, zeq_49, zxl_49, zil_49, zmL_58, zmR_58, zaL_58, zaR_58, zleL_58, zleR_58, zltL_58, zltR_58, zeq_58, zxl_58, zil_58, zmL_99, zmR_99, zaL_99, zaR_99, zleL_99, zleR_99, zltL_99, zltR_99, zeq_99, zxl_99, zil_99, zmL_100, zmR_100, zaL_100, zaR_100, zleL_100, zleR_100, zltL_100, zltR_100, zeq_100, zxl_100, zil_100, zmL_107, zmR_107, zaL_107, zaR_107, zleL_107, zleR_107, zltL_107, zltR_107, zeq_107, zxl_107, zil_107, zmL_126, zmR_126, zaL_126, zaR_126, zleL_126, zleR_126, zltL_126, zltR_126, zeq_126, zxl_126, zil_126, zmL_1000, zmR_1000, zaL_1000, zaR_1000, zleL_1000, zleR_1000, zltL_1000, zltR_1000, zeq_1000, zxl_1000, zil_1000, zmL_1605, zmR_1605, zaL_1605, zaR_1605, zleL_1605, zleR_1605, zltL_1605, zltR_1605, zeq_1605, zxl_1605, zil_1605]
  rw [if_neg (by omega), k1]
  unfold ibu at hI ⊢
  cases hq : rh R p with
  | none =>
    rw [hq] at hI
    have : g_X7_isAlive (zpi (zpi h (t + 3) p 0) t 4 (nI (clr (sa S) p))) t (zo none) = some false := by
      unfold g_X7_isAlive; rw [if_pos (by decide)]
    rw [this]
    exact ⟨_, by simp [nI_0], ⟨H.1, hI, H.2.2.1, H.2.2.2.1.same w2 (fun a b ha => by unfold AT; omega), s2⟩, w2⟩
  | some q =>
    rw [hq] at hI
    obtain ⟨hq1, hq2⟩ := (H.1.2.1 p hp).2.2.2 q hq
    simp only [zo_some]
    rw [hA (by omega)]
    simp only [zbind_s, zb_eq0] at hI ⊢
    cases hb : (clr (sa S) p).testBit q
    · rw [hb] at hI
      exact ⟨_, by simp [nI_0], ⟨H.1, by simpa using hI, H.2.2.1, H.2.2.2.1.same w2 (fun a b ha => by unfold AT; omega), s2⟩, w2⟩
    · rw [hb] at hI
      have w3 := w2.tr (zsm.pi (A := AT t) (h := zpi (zpi h (t + 3) p 0) t 4 (nI (clr (sa S) p))) (t := t + 3) (k := q) (x := nI (sv S q + sv S p)) (by unfold AT; omega))
      refine ⟨zpi (zpi (zpi h (t + 3) p 0) t 4 (nI (clr (sa S) p))) (t + 3) q (nI (sv S q + sv S p)), ?_, ⟨H.1, by simpa using hI, H.2.2.1, H.2.2.2.1.same w3 (fun a b ha => by unfold AT; omega), s2.pv q _⟩, w3⟩
      simp (disch := omega) only [zpi_r, zin_t, zx_nI, nI_add, nI_mul, znI_le, znI_lt, znI_eq, znI_neg, zgu_t, zgu_f, zbind_s, zlet_e, zb_eq0, zb_eq1, zb_t, zb_f, zleL_0, zleR_0, zltL_0, zltR_0, zeq_0, zxl_0, zil_0, zmL_1, zmR_1, zaL_1, zaR_1, zleL_1, zleR_1, zltL_1, zltR_1, zeq_1, zxl_1, zil_1, zmL_2, zmR_2, zaL_2, zaR_2, zleL_2, zleR_2, zltL_2, zltR_2, zeq_2, zxl_2, zil_2, zmL_3, zmR_3, zaL_3, zaR_3, zleL_3, zleR_3, zltL_3, zltR_3, zeq_3, zxl_3, zil_3, zmL_4, zmR_4, zaL_4, zaR_4, zleL_4, zleR_4, zltL_4, zltR_4, zeq_4, zxl_4, zil_4, zmL_5, zmR_5, zaL_5, zaR_5, zleL_5, zleR_5, zltL_5, zltR_5, zeq_5, zxl_5, zil_5, zmL_6, zmR_6, zaL_6, zaR_6, zleL_6, zleR_6, zltL_6, zltR_6, zeq_6, zxl_6, zil_6, zmL_7, zmR_7, zaL_7, zaR_7, zleL_7, zleR_7, zltL_7, zltR_7, zeq_7, zxl_7, zil_7, zmL_8, zmR_8, zaL_8, zaR_8, zleL_8, zleR_8, zltL_8, zltR_8, zeq_8, zxl_8, zil_8, zmL_9, zmR_9, zaL_9, zaR_9, zleL_9, zleR_9, zltL_9, zltR_9, zeq_9, zxl_9, zil_9, zmL_10, zmR_10, zaL_10, zaR_10, zleL_10, zleR_10, zltL_10, zltR_10, zeq_10, zxl_10, zil_10, zmL_14, zmR_14, zaL_14, zaR_14, zleL_14, zleR_14, zltL_14, zltR_14, zeq_14, zxl_14, zil_14, zmL_15, zmR_15, zaL_15, zaR_15, zleL_15, zleR_15, zltL_15, zltR_15, zeq_15, zxl_15, zil_15, zmL_16, zmR_16, zaL_16, zaR_16, zleL_16, zleR_16, zltL_16, zltR_16, zeq_16, zxl_16, zil_16, zmL_20, zmR_20, zaL_20, zaR_20, zleL_20, zleR_20, zltL_20, zltR_20, zeq_20, zxl_20, zil_20, zmL_22, zmR_22, zaL_22, zaR_22, zleL_22, zleR_22, zltL_22, zltR_22, zeq_22, zxl_22, zil_22, zmL_23, zmR_23, zaL_23, zaR_23, zleL_23, zleR_23, zltL_23, zltR_23, zeq_23, zxl_23, zil_23, zmL_24, zmR_24, zaL_24, zaR_24, zleL_24, zleR_24, zltL_24, zltR_24, zeq_24, zxl_24, zil_24, zmL_25, zmR_25, zaL_25, zaR_25, zleL_25, zleR_25, zltL_25, zltR_25, zeq_25, zxl_25, zil_25, zmL_26, zmR_26, zaL_26, zaR_26, zleL_26, zleR_26, zltL_26, zltR_26, zeq_26, zxl_26, zil_26, zmL_32, zmR_32, zaL_32, zaR_32, zleL_32, zleR_32, zltL_32, zltR_32, zeq_32, zxl_32, zil_32, zmL_40, zmR_40, zaL_40, zaR_40, zleL_40, zleR_40, zltL_40, zltR_40, zeq_40, zxl_40, zil_40, zmL_49, zmR_49, zaL_49, zaR_49, zleL_49, zleR_49, zltL_49, zltR_49, zeq_49, zxl_49, zil_49, zmL_58, zmR_58, zaL_58, zaR_58, zleL_58, zleR_58, zltL_58, zltR_58, zeq_58, zxl_58, zil_58, zmL_99, zmR_99, zaL_99, zaR_99, zleL_99, zleR_99, zltL_99, zltR_99, zeq_99, zxl_99, zil_99, zmL_100, zmR_100, zaL_100, zaR_100, zleL_100, zleR_100, zltL_100, zltR_100, zeq_100, zxl_100, zil_100, zmL_107, zmR_107, zaL_107, zaR_107, zleL_107, zleR_107, zltL_107, zltR_107, zeq_107, zxl_107, zil_107, zmL_126, zmR_126, zaL_126, zaR_126, zleL_126, zleR_126, zltL_126, zltR_126, zeq_126, zxl_126, zil_126, zmL_1000, zmR_1000, zaL_1000, zaR_1000, zleL_1000, zleR_1000, zltL_1000, zltR_1000, zeq_1000, zxl_1000, zil_1000, zmL_1605, zmR_1605, zaL_1605, zaR_1605, zleL_1605, zleR_1605, zltL_1605, zltR_1605, zeq_1605, zxl_1605, zil_1605, Bool.true_eq_false, if_false, if_true]
      rw [if_neg (by omega), if_neg (by omega), H.v q hq1, nI_add]
theorem e_X12_dies (H : MS R S h) {p : Nat} (hp : p < rn R) : ∃ h', g_X12_dies h 139 (nI p) = some (nI (ibu R S p).2, h') ∧ MS R (ibu R S p).1 h' ∧ zsm AM h h' := by
  have hn := H.n7
  have hlt := H.2.1.lt hn
  obtain ⟨k1, k2⟩ := clr_ok (sa S) hlt p (by omega)
  have hI := SI_ibu H.1 H.2.1 hp
  have w1 : zsm AM h (zpi h 171 1 (nI (clr (sa S) p))) := zsm.pi (by unfold AM; omega)
  have w2 : zsm AM h (zpi (zpi h 171 1 (nI (clr (sa S) p))) 171 (2 + p) (nI 0)) := w1.tr (zsm.pi (by unfold AM; omega))
  have s2 := (H.2.2.2.pa (clr (sa S) p)).pv hn (show p < 7 by omega) 0
  rw [show nI 0 = (0 : Int32) from rfl] at w2 s2
  have hA : ∀ {q : Nat}, q < 7 → g_X12_isAlive (zpi (zpi h 171 1 (nI (clr (sa S) p))) 171 (2 + p) 0) 139 (nI q) = some ((clr (sa S) p).testBit q) := fun {q} hq => e_X12_isAlive (R := R) (S := (sg S, sc S, zu (sv S) p 0, clr (sa S) p, sd S)) ⟨H.1, by
      obtain ⟨h1, h2, h3, h4⟩ := H.2.1
      have a0 := zsum_zu (f := sv S) (k := p) (v := 0) hp
      exact ⟨Nat.lt_of_le_of_lt (clr_le _ _) h1, h2, h3, by show zsum (zu (sv S) p 0) _ + zsum (sc S) 49 ≤ _; omega⟩, H.2.2.1.same w2 (fun a b ha hb => by unfold AM; omega), s2⟩ hq
  unfold g_X12_dies
  simp (disch := omega) only [H.v, H.hr, H.a, zr_0_0, zr_0_1, zr_0_2, zr_0_3, zr_0_4, zr_0_5, zr_0_6, zr_0_7, zr_0_8, zr_1_0, zr_3_0, zr_3_1, zr_3_2, zr_3_3, zr_3_4, zr_3_5, zr_3_6, zr_10_0, zr_10_1, zr_13_0, zr_13_1, zr_13_4, zr_14_0, zr_14_1, zr_14_2, zr_14_3, zr_14_4, zr_14_5, zr_14_6, zr_21_0, zr_21_1, zr_24_0, zr_24_1, zr_24_2, zr_26_0, zr_26_1, zr_26_4, zr_27_0, zr_37_0, zr_37_1, zr_38_0, zr_44_0, zr_44_1, zr_44_2, zr_44_3, zr_45_0, zr_45_1, zr_52_0, zr_52_1, zr_59_0, zr_59_1, zr_66_0, zr_66_1, zr_73_0, zr_74_0, zr_74_1, zr_74_2, zr_74_3, zr_74_4, zr_74_5, zr_74_6, zr_74_7, zr_74_8, zr_74_9, zr_74_10, zr_74_11, zr_74_12, zr_74_13, zr_74_14, zr_74_15, zr_139_2, zr_139_10, zr_139_11, zr_139_12, zr_139_13, zr_139_14, zr_139_15, zr_139_16, zr_139_17, zr_139_18, zr_139_19, zr_139_20, zr_139_23, zr_139_24, zr_139_25, zr_139_26, zr_139_27, zr_139_28, zr_139_29, zr_139_30, zr_139_31, zr_139_32, zr_139_33, zr_139_34, zr_139_37, zr_139_38, zr_139_39, zr_139_40, zr_139_41, zr_139_42, zr_139_43, zr_139_44, zr_139_45, zr_139_46, zr_139_47, zr_139_48, zr_139_50, zin_t, zx_nI, nI_add, nI_mul, znI_le, znI_lt, znI_eq, znI_neg, zgu_t, zgu_f, zbind_s, zlet_e, zb_eq0, zb_eq1, zb_t, zb_f, zleL_0, zleR_0, zltL_0, zltR_0, zeq_0, zxl_0, zil_0, zmL_1, zmR_1, zaL_1, zaR_1, zleL_1, zleR_1, zltL_1, zltR_1, zeq_1, zxl_1, zil_1, zmL_2, zmR_2, zaL_2, zaR_2, zleL_2, zleR_2, zltL_2, zltR_2, zeq_2, zxl_2, zil_2, zmL_3, zmR_3, zaL_3, zaR_3, zleL_3, zleR_3, zltL_3, zltR_3, zeq_3, zxl_3, zil_3, zmL_4, zmR_4, zaL_4, zaR_4, zleL_4, zleR_4, zltL_4, zltR_4, zeq_4, zxl_4, zil_4, zmL_5, zmR_5, zaL_5, zaR_5, zleL_5, zleR_5, zltL_5, zltR_5, zeq_5, zxl_5, zil_5, zmL_6, zmR_6, zaL_6, zaR_6, zleL_6, zleR_6, zltL_6, zltR_6, zeq_6, zxl_6, zil_6, zmL_7, zmR_7, zaL_7, zaR_7, zleL_7, zleR_7, zltL_7, zltR_7, zeq_7, zxl_7, zil_7, zmL_8, zmR_8, zaL_8, zaR_8, zleL_8, zleR_8, zltL_8, zltR_8, zeq_8, zxl_8, zil_8, zmL_9, zmR_9, zaL_9, zaR_9, zleL_9, zleR_9, zltL_9, zltR_9, zeq_9, zxl_9, zil_9, zmL_10, zmR_10, zaL_10, zaR_10, zleL_10, zleR_10, zltL_10, zltR_10, zeq_10, zxl_10, zil_10, zmL_14, zmR_14, zaL_14, zaR_14, zleL_14, zleR_14, zltL_14, zltR_14, zeq_14, zxl_14, zil_14, zmL_15, zmR_15, zaL_15, zaR_15, zleL_15, zleR_15, zltL_15, zltR_15, zeq_15, zxl_15, zil_15, zmL_16, zmR_16, zaL_16, zaR_16, zleL_16, zleR_16, zltL_16, zltR_16, zeq_16, zxl_16, zil_16, zmL_20, zmR_20, zaL_20, zaR_20, zleL_20, zleR_20, zltL_20, zltR_20, zeq_20, zxl_20, zil_20, zmL_22, zmR_22, zaL_22, zaR_22, zleL_22, zleR_22, zltL_22, zltR_22, zeq_22, zxl_22, zil_22, zmL_23, zmR_23, zaL_23, zaR_23, zleL_23, zleR_23, zltL_23, zltR_23, zeq_23, zxl_23, zil_23, zmL_24, zmR_24, zaL_24, zaR_24, zleL_24, zleR_24, zltL_24, zltR_24, zeq_24, zxl_24, zil_24, zmL_25, zmR_25, zaL_25, zaR_25, zleL_25, zleR_25, zltL_25, zltR_25, zeq_25, zxl_25, zil_25, zmL_26, zmR_26, zaL_26, zaR_26, zleL_26, zleR_26, zltL_26, zltR_26, zeq_26, zxl_26, zil_26, zmL_32, zmR_32, zaL_32, zaR_32, zleL_32, zleR_32, zltL_32, zltR_32, zeq_32, zxl_32, zil_32, zmL_40, zmR_40, zaL_40, zaR_40, zleL_40, zleR_40, zltL_40, zltR_40, zeq_40, zxl_40, zil_40, zmL_49, zmR_49, zaL_49, zaR_49, zleL_49, zleR_49, zltL_49, zltR_49, zeq_49, zxl_49, zil_49, zmL_58, zmR_58, zaL_58, zaR_58, zleL_58, zleR_58, zltL_58, zltR_58, zeq_58, zxl_58, zil_58, zmL_99, zmR_99, zaL_99, zaR_99, zleL_99, zleR_99, zltL_99, zltR_99, zeq_99, zxl_99, zil_99, zmL_100, zmR_100, zaL_100, zaR_100, zleL_100, zleR_100, zltL_100, zltR_100, zeq_100, zxl_100, zil_100, zmL_107, zmR_107, zaL_107, zaR_107, zleL_107, zleR_107, zltL_107, zltR_107, zeq_107, zxl_107, zil_107, zmL_126, zmR_126, zaL_126, zaR_126, zleL_126, zleR_126, zltL_126, zltR_126, zeq_126, zxl_126, zil_126, zmL_1000, zmR_1000, zaL_1000, zaR_1000, zleL_1000, zleR_1000, zltL_1000, zltR_1000, zeq_1000, zxl_1000, zil_1000, zmL_1605, zmR_1605, zaL_1605, zaR_1605, zleL_1605, zleR_1605, zltL_1605, zltR_1605, zeq_1605, zxl_1605, zil_1605]
  rw [k1]
  unfold ibu at hI ⊢
  cases hq : rh R p with
  | none =>
    rw [hq] at hI
    exact ⟨_, by simp [zo, nI_0], ⟨H.1, hI, H.2.2.1.same w2 (fun a b ha hb => by unfold AM; omega), s2⟩, w2⟩
  | some q =>
    rw [hq] at hI
    obtain ⟨hq1, hq2⟩ := (H.1.2.1 p hp).2.2.2 q hq
    rw [if_neg (show ¬ zo (some q) < 0 from nI_pos (by omega))]
    simp only [zo_some]
    rw [hA (by omega)]
    simp only [zbind_s, zb_eq0] at hI ⊢
    cases hb : (clr (sa S) p).testBit q
    · rw [hb] at hI
      exact ⟨_, by simp [nI_0], ⟨H.1, by simpa using hI, H.2.2.1.same w2 (fun a b ha hb => by unfold AM; omega), s2⟩, w2⟩
    · rw [hb] at hI
      have w3 := w2.tr (zsm.pi (A := AM) (h := zpi (zpi h 171 1 (nI (clr (sa S) p))) 171 (2 + p) 0) (t := 171) (k := 2 + q) (x := nI (sv S q + sv S p)) (by unfold AM; omega))
      refine ⟨zpi (zpi (zpi h 171 1 (nI (clr (sa S) p))) 171 (2 + p) 0) 171 (2 + q) (nI (sv S q + sv S p)), ?_, ⟨H.1, by simpa using hI, H.2.2.1.same w3 (fun a b ha hb => by unfold AM; omega), s2.pv hn (by omega) _⟩, w3⟩
      simp (disch := omega) only [zpi_r, zin_t, zx_nI, nI_add, nI_mul, znI_le, znI_lt, znI_eq, znI_neg, zgu_t, zgu_f, zbind_s, zlet_e, zb_eq0, zb_eq1, zb_t, zb_f, zleL_0, zleR_0, zltL_0, zltR_0, zeq_0, zxl_0, zil_0, zmL_1, zmR_1, zaL_1, zaR_1, zleL_1, zleR_1, zltL_1, zltR_1, zeq_1, zxl_1, zil_1, zmL_2, zmR_2, zaL_2, zaR_2, zleL_2, zleR_2, zltL_2, zltR_2, zeq_2, zxl_2, zil_2, zmL_3, zmR_3, zaL_3, zaR_3, zleL_3, zleR_3, zltL_3, zltR_3, zeq_3, zxl_3, zil_3, zmL_4, zmR_4, zaL_4, zaR_4, zleL_4, zleR_4, zltL_4, zltR_4, zeq_4, zxl_4, zil_4, zmL_5, zmR_5, zaL_5, zaR_5, zleL_5, zleR_5, zltL_5, zltR_5, zeq_5, zxl_5, zil_5, zmL_6, zmR_6, zaL_6, zaR_6, zleL_6, zleR_6, zltL_6, zltR_6, zeq_6, zxl_6, zil_6, zmL_7, zmR_7, zaL_7, zaR_7, zleL_7, zleR_7, zltL_7, zltR_7, zeq_7, zxl_7, zil_7, zmL_8, zmR_8, zaL_8, zaR_8, zleL_8, zleR_8, zltL_8, zltR_8, zeq_8, zxl_8, zil_8, zmL_9, zmR_9, zaL_9, zaR_9, zleL_9, zleR_9, zltL_9, zltR_9, zeq_9, zxl_9, zil_9, zmL_10, zmR_10, zaL_10, zaR_10, zleL_10, zleR_10, zltL_10, zltR_10, zeq_10, zxl_10, zil_10, zmL_14, zmR_14, zaL_14, zaR_14, zleL_14, zleR_14, zltL_14, zltR_14, zeq_14, zxl_14, zil_14, zmL_15, zmR_15, zaL_15, zaR_15, zleL_15, zleR_15, zltL_15, zltR_15, zeq_15, zxl_15, zil_15, zmL_16, zmR_16, zaL_16, zaR_16, zleL_16, zleR_16, zltL_16, zltR_16, zeq_16, zxl_16, zil_16, zmL_20, zmR_20, zaL_20, zaR_20, zleL_20, zleR_20, zltL_20, zltR_20, zeq_20, zxl_20, zil_20, zmL_22, zmR_22, zaL_22, zaR_22, zleL_22, zleR_22, zltL_22, zltR_22, zeq_22, zxl_22, zil_22, zmL_23, zmR_23, zaL_23, zaR_23, zleL_23, zleR_23, zltL_23, zltR_23, zeq_23, zxl_23, zil_23, zmL_24, zmR_24, zaL_24, zaR_24, zleL_24, zleR_24, zltL_24, zltR_24, zeq_24, zxl_24, zil_24, zmL_25, zmR_25, zaL_25, zaR_25, zleL_25, zleR_25, zltL_25, zltR_25, zeq_25, zxl_25, zil_25, zmL_26, zmR_26, zaL_26, zaR_26, zleL_26, zleR_26, zltL_26, zltR_26, zeq_26, zxl_26, zil_26, zmL_32, zmR_32, zaL_32, zaR_32, zleL_32, zleR_32, zltL_32, zltR_32, zeq_32, zxl_32, zil_32, zmL_40, zmR_40, zaL_40, zaR_40, zleL_40, zleR_40, zltL_40, zltR_40, zeq_40, zxl_40, zil_40, zmL_49, zmR_49, zaL_49, zaR_49, zleL_49, zleR_49, zltL_49, zltR_49, zeq_49, zxl_49, zil_49, zmL_58, zmR_58, zaL_58, zaR_58, zleL_58, zleR_58, zltL_58, zltR_58, zeq_58, zxl_58, zil_58, zmL_99, zmR_99, zaL_99, zaR_99, zleL_99, zleR_99, zltL_99, zltR_99, zeq_99, zxl_99, zil_99, zmL_100, zmR_100, zaL_100, zaR_100, zleL_100, zleR_100, zltL_100, zltR_100, zeq_100, zxl_100, zil_100, zmL_107, zmR_107, zaL_107, zaR_107, zleL_107, zleR_107, zltL_107, zltR_107, zeq_107, zxl_107, zil_107, zmL_126, zmR_126, zaL_126, zaR_126, zleL_126, zleR_126, zltL_126, zltR_126, zeq_126, zxl_126, zil_126, zmL_1000, zmR_1000, zaL_1000, zaR_1000, zleL_1000, zleR_1000, zltL_1000, zltR_1000, zeq_1000, zxl_1000, zil_1000, zmL_1605, zmR_1605, zaL_1605, zaR_1605, zleL_1605, zleR_1605, zltL_1605, zltR_1605, zeq_1605, zxl_1605, zil_1605, Bool.true_eq_false, if_false, if_true]
      rw [if_neg (by omega), if_neg (by omega), H.v q hq1, nI_add]
end D1
