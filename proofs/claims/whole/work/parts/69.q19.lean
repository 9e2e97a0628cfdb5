/-! PURE, 19: the reference: oldest, deeper, dropAll -/
def snOk (sn : Nat → Int32) : Prop := ∀ i, i < 4 → sn i = -1 ∨ 0 ≤ sn i
def scF (sc sc' : Nat → Int32) (X : List Nat) : Prop := ∀ k, k ∉ X → sc' k = sc k
theorem scF.rf {sc : Nat → Int32} {X : List Nat} : scF sc sc X := fun _ _ => rfl
theorem scF.tr {a b c : Nat → Int32} {X : List Nat} (h : scF a b X) (g : scF b c X) : scF a c X := fun k hk => (g k hk).trans (h k hk)
theorem scF.mono {a b : Nat → Int32} {X Y : List Nat} (h : scF a b X) (hx : ∀ x ∈ X, x ∈ Y) : scF a b Y := fun k hk => h k (fun h9 => hk (hx k h9))
theorem scF.up {a : Nat → Int32} {k : Nat} {x : Int32} {X : List Nat} (hk : k ∈ X) : scF a (pu_up a k x) X := fun j hj => by
  simp only [pu_up]
  have hne : ¬ j = k := fun h => hj (by rw [h]; exact hk)
  rw [if_neg hne]
theorem zR_oldest {F : Nat} {w : ga_W} {sc : Nat → Int32} {sn : Nat → Int32} {lt : Nat} (hF : 1000 < F) (h : isRh w sc) (h25 : sc 25 = nI lt) (h5 : isN w 71 sn) (hs : snOk sn) : f_R_oldest F 54 w = some (.inl (some (.int (oldA sn lt))), w) := by
  obtain ⟨G, rfl⟩ : ∃ G, F = G + 5 := ⟨F - 5, by omega⟩
  have c4 : (4 : Int32) ≤ nI 4 := by decide
  have sk : ∀ (n i : Nat) (x : Int32), i < 4 → f_R_oldest_7 (G + 5) 54 (n + 1) x (nI i) w = f_R_oldest_7 (G + 5) 54 n (o1 x (sn i)) (nI (i + 1)) w := by
    intro n i x hi
    have hc : ¬ (4 : Int32) ≤ nI i := by
      have : (4 : Int32) = nI 4 := by decide
      rw [this]; exact nI_ge hi (by omega)
    rw [f_R_oldest_7]
    simp only [↓iN hc, ↓bd (rRr h 23 71 rfl), ↓bd (rN h5 hi)]
    unfold o1
    rcases hs i hi with hm | hp
    · rw [if_pos hm, hm, if_pos (by decide), nI_1]
    · have h1 : ¬ sn i < 0 := Int32.not_lt.mpr hp
      have h2 : ¬ sn i = -1 := fun h9 => by rw [h9] at hp; exact absurd hp (by decide)
      rw [if_neg h2, if_neg h1]
      by_cases hx : x ≤ sn i
      · rw [if_pos hx, if_neg (Int32.not_lt.mpr hx), nI_1]
      · rw [if_neg hx, if_pos (Int32.not_le.mp hx), nI_1]
  have z0 : (0 : Int32) = nI 0 := by decide
  unfold f_R_oldest
  simp only [↓bd (rR h 25 rfl)]
  rw [h25, z0, sk _ 0 _ (by omega), sk _ 1 _ (by omega), sk _ 2 _ (by omega), sk _ 3 _ (by omega), f_R_oldest_7]
  simp only [↓ip c4]
  rfl
def deepG (lev : Int32) (G : Nat → Int32) (k : Int32) : Nat → List Tab → Bool
  | _, [] => false
  | i, t :: ts => (decide (G i = 0) && (decide (lev < t.2.1) && decide (lo t ≤ k ∧ k ≤ hi t))) || deepG lev G k (i + 1) ts
def isG (w : ga_W) (G : Nat → Int32) : Prop := w.1[77]? = some (.inl (1, 260, .inl G))
theorem isG.fr {w w' : ga_W} {G : Nat → Int32} {e k : Nat} (h : isG w G) (hf : pu_F w w' e k) (he : 77 < e ∨ e + k ≤ 77) : isG w' G := hf.out (by omega) h
theorem rG {w : ga_W} {G : Nat → Int32} {i : Nat} (h : isG w G) (hi : i < 260) : ga_az w 1 77 (nI i) = some (G i) := rZ h hi (by omega)
theorem zR_deeper_loop {F : Nat} {w : ga_W} {sc : Nat → Int32} {G : Nat → Int32} {lev k : Int32} (hF : 1000 < F) (hG : isG w G) (post : List Tab) : ∀ (pre : List Tab) (n : Nat), isRt w sc (pre ++ post) → (∀ t ∈ post, t.2.2 ≠ []) → post.length < n → f_R_deeper_2 F 54 k lev n (nI pre.length) w = some (.inl (some (.int (bI (deepG lev G k pre.length post)))), w) := by
  induction post with
  | nil =>
    intro pre n h ha hn
    obtain ⟨n, rfl⟩ : ∃ k, n = k + 1 := ⟨n - 1, by simp at hn; omega⟩
    simp only [List.append_nil] at h
    rw [f_R_deeper_2]
    simp only [↓bd (rR10 h), ↓ip (Int32.le_refl _), deepG, bI]
    rfl
  | cons t post ih =>
    intro pre n h ha hn
    obtain ⟨n, rfl⟩ : ∃ k, n = k + 1 := ⟨n - 1, by simp at hn; omega⟩
    have hl := rR_len h
    simp only [List.length_cons] at hn
    have h1 : ¬ nI (pre ++ t :: post).length ≤ nI pre.length := nI_ge (by simp) (by simp; omega)
    have hlv := (rT_at h (show (pre ++ t :: post)[pre.length]? = some t by simp)).2.1
    have ht : t.2.2 ≠ [] := ha t (by simp)
    have e1 := ih (pre ++ [t]) n (by simpa using h) (fun t' ht' => ha t' (by simp [ht'])) (by omega)
    simp only [List.length_append, List.length_cons, List.length_nil, Nat.zero_add] at e1
    rw [f_R_deeper_2]
    simp only [↓bd (rR10 h), ↓iN h1, ↓bd (rRr h.1 37 77 rfl), ↓bd (rG hG (show pre.length < 260 by omega))]
    have e2 : deepG lev G k pre.length (t :: post) = ((decide (G pre.length = 0) && (decide (lev < t.2.1) && decide (lo t ≤ k ∧ k ≤ hi t))) || deepG lev G k (pre.length + 1) post) := rfl
    rw [e2]
    by_cases hg : G pre.length = 0
    · simp only [↓ip hg, ↓bd (rRr h.1 7 60 rfl), ↓bd hlv]
      by_cases hx : t.2.1 ≤ lev
      · have : ¬ lev < t.2.1 := Int32.not_lt.mpr hx
        simp only [↓ip hx]
        rw [nI_1, e1]
        simp [this]
      · have hx' : lev < t.2.1 := Int32.not_le.mp hx
        simp only [↓iN hx, ↓ip (rR_is h.1), ↓gcI (zR_low hF h ht)]
        by_cases hy : k < lo t
        · have : ¬ lo t ≤ k := Int32.not_le.mpr hy
          simp only [↓ip hy]
          rw [nI_1, e1]
          simp [this]
        · have hy' : lo t ≤ k := Int32.not_lt.mp hy
          simp only [↓iN hy, ↓ip (rR_is h.1), ↓gcI (zR_high hF h ht)]
          by_cases hz : hi t < k
          · have : ¬ k ≤ hi t := Int32.not_le.mpr hz
            simp only [↓ip hz]
            rw [nI_1, e1]
            simp [this]
          · have hz' : k ≤ hi t := Int32.not_lt.mp hz
            simp only [↓iN hz]
            simp [hg, hx', hy', hz', bI]
    · simp only [↓iN hg]
      rw [nI_1, e1]
      simp [hg]
theorem zR_deeper {F : Nat} {w : ga_W} {sc : Nat → Int32} {G : Nat → Int32} {lev k : Int32} {tabs : List Tab} (hF : 1000 < F) (hG : isG w G) (h : isRt w sc tabs) (ha : ∀ t ∈ tabs, t.2.2 ≠ []) : f_R_deeper F 54 k lev w = some (.inl (some (.int (bI (deepG lev G k 0 tabs)))), w) := by
  have hl := h.2.2.2.2.1
  unfold f_R_deeper
  have := zR_deeper_loop (F := F) (lev := lev) (k := k) hF hG tabs [] F (by simpa using h) ha (by omega)
  simpa [nI_0] using this
/-- what dropAll keeps -/
def nwR (newer ofk : Int32) (r : Row) : Int32 := if r.1 = ofk then newer else -1
def drp (old : Int32) (D : Int32 → Bool) (nw : Int32) (r : Row) : Bool := decide (0 ≤ nw) || (decide (¬ r.2.2.2.1 = 0) && (decide (r.2.1 ≤ old) && !D r.1))
def nwN (old nw : Int32) (r : Row) : Int32 := if old < r.2.1 then nw else r.2.1
def drR (old : Int32) (D : Int32 → Bool) : Int32 → Int32 → List Row → List Row
  | _, _, [] => []
  | newer, ofk, r :: rs => if drp old D (nwR newer ofk r) r then drR old D (nwN old (nwR newer ofk r) r) r.1 rs else r :: drR old D (nwN old (nwR newer ofk r) r) r.1 rs
theorem drR_le (old : Int32) (D : Int32 → Bool) (rs : List Row) : ∀ newer ofk, (drR old D newer ofk rs).length ≤ rs.length := by
  induction rs with
  | nil => intro _ _; simp [drR]
  | cons r rs ih =>
    intro newer ofk
    have := ih (nwN old (nwR newer ofk r) r) r.1
    simp only [drR]
    split <;> simp only [List.length_cons] <;> omega
set_option maxHeartbeats 1000000 in
theorem zR_drop_loop {F : Nat} {G : Nat → Int32} {lev old : Int32} {tabs : List Tab} {L : Nat} (hF : 1000 < F) (hL : L ≤ 240) (ha : ∀ t ∈ tabs, t.2.2 ≠ []) (todo : List Row) : ∀ (kept : List Row) (pos : Nat) (W : Nat → Row) (sc : Nat → Int32) (w : ga_W) (n : Nat) (newer ofk : Int32), isRt w sc tabs → isA w 73 260 W → isG w G → sc 36 = nI L → pos + todo.length = L → kept.length ≤ pos → pu_ag W kept → (∀ j, j < todo.length → todo[j]? = some (W (pos + j))) → todo.length < n →
    ∃ w' sc', f_R_dropAll_16 F 54 lev old n (nI kept.length) newer ofk (nI pos) w = some (.inl none, w') ∧ isRt w' sc' tabs ∧ isWk w' sc' (kept ++ drR old (fun k => deepG lev G k 0 tabs) newer ofk todo) ∧ isG w' G ∧ sc' 31 = sc 31 + nI (todo.length - (drR old (fun k => deepG lev G k 0 tabs) newer ofk todo).length) ∧ scF sc sc' [31, 36] ∧ pu_K w w' [(54, 1), (73, 4)] := by
  induction todo with
  | nil =>
    intro kept pos W sc w n newer ofk h hA hG h36 hp hk hag htd hn
    obtain ⟨n, rfl⟩ : ∃ k, n = k + 1 := ⟨n - 1, by simp at hn; omega⟩
    simp only [List.length_nil, Nat.add_zero] at hp
    obtain ⟨w1, a1, a2, a3⟩ := zR h.1 36 (nI kept.length) (by omega) rfl
    refine ⟨w1, _, ?_, h.sc a3 a2 rfl rfl, ⟨⟨W, hA.fr a3 (by omega), by simpa [drR] using hag⟩, by simp [drR, pu_up], by simp [drR]; omega⟩, hG.fr a3 (by omega), ?_, scF.up (by simp), a3.K (by simp)⟩
    · have hle : sc 36 ≤ nI pos := by rw [h36, hp]; exact Int32.le_refl _
      rw [f_R_dropAll_16]
      simp only [↓bd (rR h.1 36 rfl), ↓ip hle, ↓bd a1]
    · show sc 31 = _
      have : nI 0 = 0 := by decide
      simp [drR, this]
  | cons r rs ih =>
    intro kept pos W sc w n newer ofk h hA hG h36 hp hk hag htd hn
    obtain ⟨n, rfl⟩ : ∃ k, n = k + 1 := ⟨n - 1, by simp at hn; omega⟩
    simp only [List.length_cons] at hp hn
    have hW : W pos = r := by
      have := htd 0 (by simp)
      simpa using this.symm
    have hle : ¬ sc 36 ≤ nI pos := by rw [h36]; exact nI_ge (by omega) (by omega)
    have r1 := rA hA.1 (show pos < 260 by omega) (by omega)
    have r2 := rA hA.2.1 (show pos < 260 by omega) (by omega)
    have r4 := rZ hA.2.2.2.1 (show pos < 260 by omega) (by omega)
    rw [hW] at r1 r2 r4
    have hdp := zR_deeper (F := F) (lev := lev) (k := r.1) hF hG h ha
    -- what the two ends are
    obtain ⟨w1, a1, a2, a3⟩ := zR h.1 31 (sc 31 + 1) (by omega) rfl
    obtain ⟨w2, b1, b2, b3, b4⟩ := zR_copyWork (F := F) (i := kept.length) (j := pos) h.1 hA (by omega) (by omega)
    have hag2 : pu_ag (pu_up W kept.length (W pos)) (kept ++ [r]) := by
      have := hag.push (W pos)
      rwa [hW] at this ⊢
    have htd2 : ∀ j, j < rs.length → rs[j]? = some (W (pos + 1 + j)) := fun j hj => by
      have := htd (j + 1) (by simp; omega)
      rw [List.getElem?_cons_succ] at this
      rw [this]; congr 2; omega
    -- the road to the choice
    have hroad : f_R_dropAll_16 F 54 lev old (n + 1) (nI kept.length) newer ofk (nI pos) w = if drp old (fun k => deepG lev G k 0 tabs) (nwR newer ofk r) r then f_R_dropAll_16 F 54 lev old n (nI kept.length) (nwN old (nwR newer ofk r) r) r.1 (nI (pos + 1)) w1 else f_R_dropAll_16 F 54 lev old n (nI (kept.length + 1)) (nwN old (nwR newer ofk r) r) r.1 (nI (pos + 1)) w2 := by
      have c10 : ¬ (1 : Int32) = 0 := by decide
      have c00 : (0 : Int32) = 0 := rfl
      have e9 : nwR newer ofk r = if r.1 = ofk then newer else -1 := rfl
      rw [f_R_dropAll_16]
      simp only [↓bd (rR h.1 36 rfl), ↓iN hle, ↓bd (rRr h.1 32 73 rfl), ↓bd r1, ↓jn]
      by_cases hof : r.1 = ofk
      · rw [e9, if_pos hof]
        simp only [↓ip hof]
        by_cases h0 : 0 ≤ newer
        · have hd : drp old (fun k => deepG lev G k 0 tabs) newer r = true := by simp [drp, h0]
          rw [if_pos hd]
          by_cases ho : old < r.2.1
          · have hn : nwN old newer r = newer := if_pos ho
            rw [hn]
            simp only [↓ip h0, ↓bd (rRr h.1 33 74 rfl), ↓bd r2, ↓ip ho, ↓iN c10, ↓bd (rR h.1 31 rfl), ↓bd a1]
            rw [nI_1]
          · have hn : nwN old newer r = r.2.1 := if_neg ho
            rw [hn]
            simp only [↓ip h0, ↓bd (rRr h.1 33 74 rfl), ↓bd r2, ↓iN ho, ↓iN c10, ↓bd (rR h.1 31 rfl), ↓bd a1]
            rw [nI_1]
        · by_cases hg : r.2.2.2.1 = 0
          · have hd : ¬ drp old (fun k => deepG lev G k 0 tabs) newer r = true := by simp [drp, h0, hg]
            rw [if_neg hd]
            by_cases ho : old < r.2.1
            · have hn : nwN old newer r = newer := if_pos ho
              rw [hn]
              simp only [↓iN h0, ↓bd (rRr h.1 35 76 rfl), ↓bd r4, ↓ip hg, ↓bd (rRr h.1 33 74 rfl), ↓bd r2, ↓ip ho, ↓ip c00, ↓ip trivial, ↓ip (rR_is h.1), ↓gcV b1]
              rw [nI_1, nI_1]
            · have hn : nwN old newer r = r.2.1 := if_neg ho
              rw [hn]
              simp only [↓iN h0, ↓bd (rRr h.1 35 76 rfl), ↓bd r4, ↓ip hg, ↓bd (rRr h.1 33 74 rfl), ↓bd r2, ↓iN ho, ↓ip c00, ↓ip trivial, ↓ip (rR_is h.1), ↓gcV b1]
              rw [nI_1, nI_1]
          · by_cases ho : old < r.2.1
            · have hno : ¬ r.2.1 ≤ old := Int32.not_le.mpr ho
              have hd : ¬ drp old (fun k => deepG lev G k 0 tabs) newer r = true := by simp [drp, h0, hno]
              have hn : nwN old newer r = newer := if_pos ho
              rw [if_neg hd, hn]
              simp only [↓iN h0, ↓bd (rRr h.1 35 76 rfl), ↓bd r4, ↓iN hg, ↓bd (rRr h.1 33 74 rfl), ↓bd r2, ↓ip ho, ↓ip c00, ↓ip trivial, ↓ip (rR_is h.1), ↓gcV b1]
              rw [nI_1, nI_1]
            · have hno : r.2.1 ≤ old := Int32.not_lt.mp ho
              have hn : nwN old newer r = r.2.1 := if_neg ho
              rw [hn]
              cases hdd : deepG lev G r.1 0 tabs
              · have hb0 : bI (deepG lev G r.1 0 tabs) = 0 := by rw [hdd]; rfl
                have hd : drp old (fun k => deepG lev G k 0 tabs) newer r = true := by simp [drp, hg, hno, hdd]
                rw [if_pos hd]
                simp only [↓iN h0, ↓bd (rRr h.1 35 76 rfl), ↓bd r4, ↓iN hg, ↓bd (rRr h.1 33 74 rfl), ↓bd r2, ↓iN ho, ↓ip (rR_is h.1), ↓gcI hdp, ↓ip hb0, ↓iN c10, ↓bd (rR h.1 31 rfl), ↓bd a1]
                rw [nI_1]
              · have hb0 : ¬ bI (deepG lev G r.1 0 tabs) = 0 := by rw [hdd]; decide
                have hd : ¬ drp old (fun k => deepG lev G k 0 tabs) newer r = true := by simp [drp, h0, hdd]
                rw [if_neg hd]
                simp only [↓iN h0, ↓bd (rRr h.1 35 76 rfl), ↓bd r4, ↓iN hg, ↓bd (rRr h.1 33 74 rfl), ↓bd r2, ↓iN ho, ↓ip (rR_is h.1), ↓gcI hdp, ↓iN hb0, ↓ip c00, ↓ip trivial, ↓gcV b1]
                rw [nI_1, nI_1]
      · rw [e9, if_neg hof]
        simp only [↓iN hof]
        generalize (-1 : Int32) = nm
        by_cases h0 : 0 ≤ nm
        · have hd : drp old (fun k => deepG lev G k 0 tabs) nm r = true := by simp [drp, h0]
          rw [if_pos hd]
          by_cases ho : old < r.2.1
          · have hn : nwN old nm r = nm := if_pos ho
            rw [hn]
            simp only [↓ip h0, ↓bd (rRr h.1 33 74 rfl), ↓bd r2, ↓ip ho, ↓iN c10, ↓bd (rR h.1 31 rfl), ↓bd a1]
            rw [nI_1]
          · have hn : nwN old nm r = r.2.1 := if_neg ho
            rw [hn]
            simp only [↓ip h0, ↓bd (rRr h.1 33 74 rfl), ↓bd r2, ↓iN ho, ↓iN c10, ↓bd (rR h.1 31 rfl), ↓bd a1]
            rw [nI_1]
        · by_cases hg : r.2.2.2.1 = 0
          · have hd : ¬ drp old (fun k => deepG lev G k 0 tabs) nm r = true := by simp [drp, h0, hg]
            rw [if_neg hd]
            by_cases ho : old < r.2.1
            · have hn : nwN old nm r = nm := if_pos ho
              rw [hn]
              simp only [↓iN h0, ↓bd (rRr h.1 35 76 rfl), ↓bd r4, ↓ip hg, ↓bd (rRr h.1 33 74 rfl), ↓bd r2, ↓ip ho, ↓ip c00, ↓ip trivial, ↓ip (rR_is h.1), ↓gcV b1]
              rw [nI_1, nI_1]
            · have hn : nwN old nm r = r.2.1 := if_neg ho
              rw [hn]
              simp only [↓iN h0, ↓bd (rRr h.1 35 76 rfl), ↓bd r4, ↓ip hg, ↓bd (rRr h.1 33 74 rfl), ↓bd r2, ↓iN ho, ↓ip c00, ↓ip trivial, ↓ip (rR_is h.1), ↓gcV b1]
              rw [nI_1, nI_1]
          · by_cases ho : old < r.2.1
            · have hno : ¬ r.2.1 ≤ old := Int32.not_le.mpr ho
              have hd : ¬ drp old (fun k => deepG lev G k 0 tabs) nm r = true := by simp [drp, h0, hno]
              have hn : nwN old nm r = nm := if_pos ho
              rw [if_neg hd, hn]
              simp only [↓iN h0, ↓bd (rRr h.1 35 76 rfl), ↓bd r4, ↓iN hg, ↓bd (rRr h.1 33 74 rfl), ↓bd r2, ↓ip ho, ↓ip c00, ↓ip trivial, ↓ip (rR_is h.1), ↓gcV b1]
              rw [nI_1, nI_1]
            · have hno : r.2.1 ≤ old := Int32.not_lt.mp ho
              have hn : nwN old nm r = r.2.1 := if_neg ho
              rw [hn]
              cases hdd : deepG lev G r.1 0 tabs
              · have hb0 : bI (deepG lev G r.1 0 tabs) = 0 := by rw [hdd]; rfl
                have hd : drp old (fun k => deepG lev G k 0 tabs) nm r = true := by simp [drp, hg, hno, hdd]
                rw [if_pos hd]
                simp only [↓iN h0, ↓bd (rRr h.1 35 76 rfl), ↓bd r4, ↓iN hg, ↓bd (rRr h.1 33 74 rfl), ↓bd r2, ↓iN ho, ↓ip (rR_is h.1), ↓gcI hdp, ↓ip hb0, ↓iN c10, ↓bd (rR h.1 31 rfl), ↓bd a1]
                rw [nI_1]
              · have hb0 : ¬ bI (deepG lev G r.1 0 tabs) = 0 := by rw [hdd]; decide
                have hd : ¬ drp old (fun k => deepG lev G k 0 tabs) nm r = true := by simp [drp, h0, hdd]
                rw [if_neg hd]
                simp only [↓iN h0, ↓bd (rRr h.1 35 76 rfl), ↓bd r4, ↓iN hg, ↓bd (rRr h.1 33 74 rfl), ↓bd r2, ↓iN ho, ↓ip (rR_is h.1), ↓gcI hdp, ↓iN hb0, ↓ip c00, ↓ip trivial, ↓gcV b1]
                rw [nI_1, nI_1]
    rw [hroad]
    have hdle := drR_le old (fun k => deepG lev G k 0 tabs) rs (nwN old (nwR newer ofk r) r) r.1
    by_cases hd : drp old (fun k => deepG lev G k 0 tabs) (nwR newer ofk r) r = true
    · obtain ⟨w3, sc3, c1, c2, c3, c4, c5, c6, c7⟩ := ih kept (pos + 1) W _ w1 n (nwN old (nwR newer ofk r) r) r.1 (h.sc a3 a2 rfl rfl) (hA.fr a3 (by omega)) (hG.fr a3 (by omega)) h36 (by omega) (by omega) hag htd2 (by omega)
      have e1 : drR old (fun k => deepG lev G k 0 tabs) newer ofk (r :: rs) = drR old (fun k => deepG lev G k 0 tabs) (nwN old (nwR newer ofk r) r) r.1 rs := by simp only [drR]; rw [if_pos hd]
      rw [if_pos hd, e1]
      refine ⟨w3, sc3, c1, c2, c3, c4, ?_, (scF.up (by simp)).tr c6, (a3.K (by simp)).tr c7⟩
      rw [c5]
      show sc 31 + 1 + _ = _
      rw [List.length_cons, Nat.sub_add_comm hdle, ← nI_1, Int32.add_assoc, Int32.add_comm 1]
    · have hd' : drp old (fun k => deepG lev G k 0 tabs) (nwR newer ofk r) r = false := by simpa using hd
      obtain ⟨w3, sc3, c1, c2, c3, c4, c5, c6, c7⟩ := ih (kept ++ [r]) (pos + 1) _ sc w2 n (nwN old (nwR newer ofk r) r) r.1 (h.fr b4 (by omega)) b3 (hG.fr b4 (by omega)) h36 (by omega) (by simp; omega) hag2 (fun j hj => by simp only [pu_up]; rw [if_neg (by omega)]; exact htd2 j hj) (by omega)
      have e1 : drR old (fun k => deepG lev G k 0 tabs) newer ofk (r :: rs) = r :: drR old (fun k => deepG lev G k 0 tabs) (nwN old (nwR newer ofk r) r) r.1 rs := by simp only [drR]; rw [if_neg hd]
      rw [if_neg hd, e1]
      simp only [List.length_append, List.length_cons, List.length_nil, Nat.zero_add] at c1
      refine ⟨w3, sc3, c1, c2, by simpa using c3, c4, ?_, c6, (b4.K (by simp)).tr c7⟩
      rw [c5, List.length_cons, List.length_cons, Nat.add_sub_add_right]
theorem zR_dropAll {F : Nat} {w : ga_W} {sc : Nat → Int32} {sn : Nat → Int32} {lt : Nat} {G : Nat → Int32} {lev : Int32} {tabs : List Tab} {ws : List Row} (hF : 1000 < F) (ha : ∀ t ∈ tabs, t.2.2 ≠ []) (h : isRt w sc tabs) (hw : isWk w sc ws) (hG : isG w G) (h25 : sc 25 = nI lt) (h5 : isN w 71 sn) (hs : snOk sn) :
    ∃ w' sc', f_R_dropAll F 54 lev w = some (.inl none, w') ∧ isRt w' sc' tabs ∧ isWk w' sc' (drR (oldA sn lt) (fun k => deepG lev G k 0 tabs) (-1) (-1) ws) ∧ isG w' G ∧ sc' 31 = sc 31 + nI (ws.length - (drR (oldA sn lt) (fun k => deepG lev G k 0 tabs) (-1) (-1) ws).length) ∧ scF sc sc' [31, 36] ∧ pu_K w w' [(54, 1), (73, 4)] := by
  obtain ⟨⟨W, hA, hag⟩, h36, hl⟩ := hw
  obtain ⟨w', sc', c1, c2, c3, c4, c5, c6, c7⟩ := zR_drop_loop (F := F) (lev := lev) (old := oldA sn lt) (L := ws.length) hF hl ha ws [] 0 W sc w F (-1) (-1) h hA hG h36 (by omega) (by simp) (fun i hi => by simp at hi) (fun j hj => by rw [Nat.zero_add]; exact hag j hj) (by omega)
  refine ⟨w', sc', ?_, c2, by simpa using c3, c4, c5, c6, c7⟩
  unfold f_R_dropAll
  simp only [↓ip (rR_is h.1), ↓gcI (zR_oldest hF h.1 h25 h5 hs)]
  simp only [List.length_nil, nI_0] at c1
  exact c1
