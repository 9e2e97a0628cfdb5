/-! PURE, 12: the class writes, flushes, crashes -/
def o1 (x v : Int32) : Int32 := if v = -1 then x else if v < x then v else x
def oldA (sn : Nat → Int32) (lt : Nat) : Int32 := o1 (o1 (o1 (o1 (nI lt) (sn 0)) (sn 1)) (sn 2)) (sn 3)
theorem zL_oldest {F : Nat} {w : ga_W} {bo rd ms gt : Int32} {sn : Nat → Int32} {lt : Nat} (hF : 1000 < F) (h0 : isLh w bo (nI lt) rd ms gt) (h5 : isN w 53 sn) : f_L_oldest F 0 w = some (.inl (some (.int (oldA sn lt))), w) := by
  obtain ⟨G, rfl⟩ : ∃ G, F = G + 5 := ⟨F - 5, by omega⟩
  have c4 : (4 : Int32) ≤ nI 4 := by decide
  have sk : ∀ (n i : Nat) (x : Int32), i < 4 → f_L_oldest_7 (G + 5) 0 (n + 1) x (nI i) w = f_L_oldest_7 (G + 5) 0 n (o1 x (sn i)) (nI (i + 1)) w := by
    intro n i x hi
    have hc : ¬ (4 : Int32) ≤ nI i := by
      have : (4 : Int32) = nI 4 := by decide
      rw [this]; exact nI_ge hi (by omega)
    rw [f_L_oldest_7]
    simp only [↓iN hc, ↓bd (rL_s h0), ↓bd (rN h5 hi)]
    unfold o1
    by_cases hs : sn i = -1
    · rw [if_pos hs, if_pos hs, nI_1]
    · rw [if_neg hs, if_neg hs, nI_1]
  have z0 : (0 : Int32) = nI 0 := by decide
  unfold f_L_oldest
  simp only [↓bd (rL_lt h0)]
  rw [z0, sk _ 0 _ (by omega), sk _ 1 _ (by omega), sk _ 2 _ (by omega), sk _ 3 _ (by omega), f_L_oldest_7]
  simp only [↓ip c4]
  rfl
/-- memory goes to level 0 -/
def flA (lv : LV) (mem : List Row) : LV := ((lv.2.2.1, 0, srt mem.reverse) :: lv.1, lv.2.1, lv.2.2.1 + 1, lv.2.2.2)
theorem zL_move {F : Nat} {w : ga_W} {bo lt rd ms gt : Int32} {lv : LV} {mem : List Row} {recs : List Nat} {syn : Nat} (hF : 1000 < F) (h0 : isLh w bo lt rd ms gt) (h1 : isM w mem recs syn) (h2 : isVs w lv) (hk : ∀ r ∈ mem, okK r) (hc : (fl lv.1).length + mem.length ≤ 240) (hc2 : lv.1.length < 240) :
    ∃ w', f_L_moveMemoryToLevel0 F 0 w = some (.inl none, w') ∧ isLh w' bo lt rd ms gt ∧ isM w' [] [] 0 ∧ isVs w' (flA lv mem) ∧ pu_F w w' 1 46 := by
  obtain ⟨w1, a1, a2, a3⟩ := zV_addToLevel0 (F := F) hF h2 h1.2.1 hk hc hc2
  have h11 := h1.fr a3 (by omega)
  have h01 := h0.fr a3 (by omega)
  obtain ⟨w2, b1, b2, b3⟩ := zM_clear (F := F) h11
  obtain ⟨sh, sp, hv, -⟩ := id h2
  refine ⟨w2, ?_, h01.fr b3 (by omega), b2, isV.fr a2 b3 (by omega), (a3.mono (by omega) (by omega)).tr (b3.mono (by omega) (by omega))⟩
  unfold f_L_moveMemoryToLevel0
  simp only [↓bd (rL_v h0), ↓bd (rL_m h0), ↓bd (rM_rows h1.1), ↓ip (rV_is hv), ↓gcV a1, ↓bd (rL_m h01), ↓ip (rM_is h11.1), ↓gcV b1]
def fullA (lv : LV) (mem : List Row) (n : Nat) : Prop := 240 < mem.length + (fl lv.1).length + n ∨ (¬ lv.2.1 = 0 ∧ 8 ≤ cl 0 lv.1)
noncomputable def wrA (lv : LV) (mem : List Row) (recs : List Nat) (syn : Nat) (sn : Nat → Int32) (lt : Nat) (ps : List Row) : LV × List Row × List Nat × Nat :=
  if mem.length + ps.length < 8 then (lv, mem ++ recd lt 0 ps, recs ++ [ps.length], syn) else (tdyC (oldA sn (lt + ps.length)) 500 (flA lv (mem ++ recd lt 0 ps)), [], [], 0)
theorem recd_ok (lt : Nat) (ps : List Row) (h : ∀ r ∈ ps, okK r) : ∀ i, ∀ r ∈ recd lt i ps, okK r := by
  induction ps with
  | nil => intro i r hr; simp [recd] at hr
  | cons p ps ih =>
    intro i r hr
    simp only [recd] at hr
    rcases List.mem_cons.mp hr with rfl | hr
    · exact h p List.mem_cons_self
    · exact ih (fun r h2 => h r (List.mem_cons_of_mem _ h2)) _ r hr
theorem zL_write {F : Nat} {w : ga_W} {bo rd ms gt : Int32} {lv : LV} {mem ps : List Row} {recs : List Nat} {syn : Nat} {sn : Nat → Int32} {lt : Nat} (hF : 1000 < F) (h0 : isLh w bo (nI lt) rd ms gt) (h1 : isM w mem recs syn) (h2 : isVs w lv) (h3 : isEl w 47 4 ps) (h5 : isN w 53 sn)
    (hr8 : recs.length < 8) (hm : mem.length < 8) (hk : ∀ r ∈ mem, okK r) (hkp : ∀ r ∈ ps, okK r) (hne : ∀ t ∈ lv.1, t.2.2 ≠ []) (hps : 0 < ps.length)
    (hok : ¬ fullA lv mem ps.length → 8 ≤ mem.length + ps.length → okT (oldA sn (lt + ps.length)) 500 (flA lv (mem ++ recd lt 0 ps))) :
    (fullA lv mem ps.length → f_L_write F 0 w = some (.inr 1, xw w)) ∧ (¬ fullA lv mem ps.length → ∃ w', f_L_write F 0 w = some (.inl (some (.int (nI (lt + ps.length)))), w') ∧ isLh w' bo (nI (lt + ps.length)) rd ms gt ∧ isM w' (wrA lv mem recs syn sn lt ps).2.1 (wrA lv mem recs syn sn lt ps).2.2.1 (wrA lv mem recs syn sn lt ps).2.2.2 ∧ isVs w' (wrA lv mem recs syn sn lt ps).1 ∧ isEl w' 47 4 ps ∧ isN w' 53 sn ∧ pu_F w w' 0 47) := by
  obtain ⟨sh, sp, hv, hs, -⟩ := id h2
  have hps4 := h3.1
  have hfl := (rS_e hs).1
  have htl := hs.2.1
  simp only [List.length_append] at hfl
  have hcl : cl 0 lv.1 ≤ lv.1.length := List.countP_le_length
  have z1 := rE_size (rS_e hs)
  simp only [List.append_nil] at z1
  have n240 : (240 : Int32) = nI 240 := by decide
  have hblk := zV_isBlocked (F := F) hF hv hs
  -- up to the first test
  have head : ∀ f : ga_O, (if 240 < mem.length + (fl lv.1).length + ps.length then f_L_write F 0 w = some (.inr 1, xw w) else True) := by
    intro f
    split
    · rename_i hx
      have hx2 : (240 : Int32) < nI mem.length + nI (fl lv.1).length + nI ps.length := by
        rw [nI_add, nI_add, n240]; exact nI_lt hx (by omega)
      unfold f_L_write
      simp only [↓bd (rL_m h0), ↓bd (rM_rows h1.1), ↓bd (rE_size h1.2.1), ↓bd (rL_v h0), ↓bd (rV_sh hv), ↓bd (rS_rows hs), ↓bd z1, ↓bd (rL_p h0), ↓bd (rE_size h3), ↓ip hx2]
      rfl
    · trivial
  constructor
  · intro hf
    by_cases hx : 240 < mem.length + (fl lv.1).length + ps.length
    · have := head none
      rwa [if_pos hx] at this
    · have hb := hf.resolve_left hx
      have hx2 : ¬ (240 : Int32) < nI mem.length + nI (fl lv.1).length + nI ps.length := by
        rw [nI_add, nI_add, n240]; exact nI_nlt (by omega) (by omega)
      have hc : ¬ (lv.2.1 = 0 ∨ cl 0 lv.1 < 8) := by
        rintro (h | h)
        · exact hb.1 h
        · omega
      have hb2 : ¬ (if lv.2.1 = 0 ∨ cl 0 lv.1 < 8 then (0 : Int32) else 1) = 0 := by rw [if_neg hc]; decide
      unfold f_L_write
      simp only [↓bd (rL_m h0), ↓bd (rM_rows h1.1), ↓bd (rE_size h1.2.1), ↓bd (rL_v h0), ↓bd (rV_sh hv), ↓bd (rS_rows hs), ↓bd z1, ↓bd (rL_p h0), ↓bd (rE_size h3), ↓iN hx2, ↓ip (rV_is hv), ↓gcI hblk, ↓iN hb2]
      rfl
  · intro hf
    have hx : ¬ 240 < mem.length + (fl lv.1).length + ps.length := fun h => hf (Or.inl h)
    have hx2 : ¬ (240 : Int32) < nI mem.length + nI (fl lv.1).length + nI ps.length := by
      rw [nI_add, nI_add, n240]; exact nI_nlt (by omega) (by omega)
    have hc : lv.2.1 = 0 ∨ cl 0 lv.1 < 8 := by
      by_cases h : lv.2.1 = 0
      · exact Or.inl h
      · right
        by_cases h8 : cl 0 lv.1 < 8
        · exact h8
        · exact absurd (Or.inr ⟨h, by omega⟩) hf
    have hb2 : (if lv.2.1 = 0 ∨ cl 0 lv.1 < 8 then (0 : Int32) else 1) = 0 := by rw [if_pos hc]
    obtain ⟨w1, a1, a2, a3⟩ := zM_addRecord (F := F) (lt := lt) hF (by omega) h1 h3 (by omega) hr8
    have h01 := h0.fr a3 (by omega)
    have h31 := h3.fr a3 (by omega)
    obtain ⟨w2, b1, b2, b3⟩ := zL_lt (x := nI (lt + ps.length)) h01
    have h12 := a2.fr b3 (by omega)
    have h22 := (h2.fr a3 (by omega)).fr b3 (by omega)
    have h32 := h31.fr b3 (by omega)
    have h52 := (h5.fr a3 (by omega)).fr b3 (by omega)
    have hF2 : pu_F w w2 0 47 := (a3.mono (by omega) (by omega)).tr (b3.mono (by omega) (by omega))
    have hlen : (mem ++ recd lt 0 ps).length = mem.length + ps.length := by simp [recd_len]
    have n8 : (8 : Int32) = nI 8 := by decide
    have hsum : nI lt + nI ps.length = nI (lt + ps.length) := nI_add _ _
    by_cases h8 : mem.length + ps.length < 8
    · refine ⟨w2, ?_, b2, by simpa [wrA, h8] using h12, by simpa [wrA, h8] using h22, h32, h52, hF2⟩
      have h82 : nI (mem ++ recd lt 0 ps).length < (8 : Int32) := by rw [n8, hlen]; exact nI_lt h8 (by omega)
      rw [← hsum] at b1
      unfold f_L_write
      simp only [↓bd (rL_m h0), ↓bd (rM_rows h1.1), ↓bd (rE_size h1.2.1), ↓bd (rL_v h0), ↓bd (rV_sh hv), ↓bd (rS_rows hs), ↓bd z1, ↓bd (rL_p h0), ↓bd (rE_size h3), ↓iN hx2, ↓ip (rV_is hv), ↓gcI hblk, ↓ip hb2, ↓bd (rL_lt h0), ↓ip (rM_is h1.1), ↓gcV a1, ↓bd (rL_lt h01), ↓bd (rL_p h01), ↓bd (rE_size h31), ↓bd b1, ↓bd (rL_m b2), ↓bd (rM_rows h12.1), ↓bd (rE_size h12.2.1), ↓ip h82, ↓bd (rL_lt b2)]
    · have hkm : ∀ r ∈ mem ++ recd lt 0 ps, okK r := fun r hr => by
        rcases List.mem_append.mp hr with hr | hr
        · exact hk r hr
        · exact recd_ok lt ps hkp 0 r hr
      have hnl := ne_le hne
      obtain ⟨w3, c1, c2, c3, c4, c5⟩ := zL_move (F := F) hF b2 h12 h22 hkm (by rw [hlen]; omega) (by omega)
      have h53 := h52.fr c5 (by omega)
      obtain ⟨w4, d1, d2, d3⟩ := zV_tidy (F := F) (k := 500) hF c4 (hok hf (by omega)) (by omega)
      obtain ⟨sh3, sp3, hv3, -⟩ := id c4
      have h82 : ¬ nI (mem ++ recd lt 0 ps).length < (8 : Int32) := by rw [n8, hlen]; exact nI_nlt (by omega) (by omega)
      have h04 := c2.fr d3 (by omega)
      refine ⟨w4, ?_, h04, by simpa [wrA, h8] using c3.fr d3 (by omega), by simpa [wrA, h8] using d2, (h32.fr c5 (by omega)).fr d3 (by omega), h53.fr d3 (by omega), (hF2.tr (c5.mono (by omega) (by omega))).tr (d3.mono (by omega) (by omega))⟩
      rw [← hsum] at b1
      unfold f_L_write
      simp only [↓bd (rL_m h0), ↓bd (rM_rows h1.1), ↓bd (rE_size h1.2.1), ↓bd (rL_v h0), ↓bd (rV_sh hv), ↓bd (rS_rows hs), ↓bd z1, ↓bd (rL_p h0), ↓bd (rE_size h3), ↓iN hx2, ↓ip (rV_is hv), ↓gcI hblk, ↓ip hb2, ↓bd (rL_lt h0), ↓ip (rM_is h1.1), ↓gcV a1, ↓bd (rL_lt h01), ↓bd (rL_p h01), ↓bd (rE_size h31), ↓bd b1, ↓bd (rL_m b2), ↓bd (rM_rows h12.1), ↓bd (rE_size h12.2.1), ↓iN h82, ↓ip (rL_is b2), ↓gcV c1, ↓bd (rL_v c2), ↓ip (rL_is c2), ↓gcI (zL_oldest hF c2 h53), ↓ip (rV_is hv3), ↓gcV d1, ↓bd (rL_lt h04)]
/-- a row is added to what is pending -/
theorem zL_addToPending {F : Nat} {w : ga_W} {bo lt rd ms gt : Int32} {pd : List Row} {key v g : Int32} (h0 : isLh w bo lt rd ms gt) (h3 : isEl w 47 4 pd) (hg : g = 0 ∨ g = 1) :
    (¬ (0 ≤ key ∧ key ≤ 63) → f_L_addToPending F 0 key v g w = some (.inr 0, xw w)) ∧
    (0 ≤ key ∧ key ≤ 63 → ¬ bo = 0 → pd.length = 4 → f_L_addToPending F 0 key v g w = some (.inr 2, xw w)) ∧
    (0 ≤ key ∧ key ≤ 63 → (bo = 0 ∨ pd.length < 4) → ∃ w', f_L_addToPending F 0 key v g w = some (.inl none, w') ∧ isEl w' 47 4 ((if bo = 0 then [] else pd) ++ [(key, 0, v, g, 0)]) ∧ pu_F w w' 47 6) := by
  have n4 : (4 : Int32) = nI 4 := by decide
  refine ⟨fun hk => ?_, fun hk hb hl => ?_, fun hk hb => ?_⟩
  · unfold f_L_addToPending
    simp only [↓gcX (zL_out hk)]
    rfl
  · have hl4 : ¬ nI pd.length < (4 : Int32) := by rw [n4, hl]; exact nI_nlt (by omega) (by omega)
    unfold f_L_addToPending
    simp only [↓gcV (zL_in hk), ↓bd (rL_bo h0), ↓jn, ↓iN hb, ↓bd (rL_p h0), ↓bd (rE_size h3), ↓iN hl4]
    rfl
  · by_cases hb0 : bo = 0
    · obtain ⟨w1, a1, a2, a3⟩ := zE_clear h3
      have h01 := h0.fr a3 (by omega)
      obtain ⟨w2, b1, b2, b3⟩ := zE_add (F := F) (k := key) (nu := 0) (v := v) (g := g) a2 (by simp) hg
      refine ⟨w2, ?_, by simpa [hb0] using b2, a3.tr b3⟩
      have hl4 : nI ([] : List Row).length < (4 : Int32) := by decide
      unfold f_L_addToPending
      simp only [↓gcV (zL_in hk), ↓bd (rL_bo h0), ↓jn, ↓ip hb0, ↓bd (rL_p h0), ↓bd a1, ↓bd (rL_p h01), ↓bd (rE_size a2), ↓ip hl4, ↓ip (rE_is a2), ↓gcV b1]
    · have hl := hb.resolve_left hb0
      obtain ⟨w2, b1, b2, b3⟩ := zE_add (F := F) (k := key) (nu := 0) (v := v) (g := g) h3 hl hg
      refine ⟨w2, ?_, by simpa [hb0] using b2, b3⟩
      have hl4 : nI pd.length < (4 : Int32) := by rw [n4]; exact nI_lt hl (by omega)
      unfold f_L_addToPending
      simp only [↓gcV (zL_in hk), ↓bd (rL_bo h0), ↓jn, ↓iN hb0, ↓bd (rL_p h0), ↓bd (rE_size h3), ↓ip hl4, ↓ip (rE_is h3), ↓gcV b1]
