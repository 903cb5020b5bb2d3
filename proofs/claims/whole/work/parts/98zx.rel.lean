/-- THE RELATION. A colour; then the class's cells in a world that begins at B against the reference's -/
def sp_col (c : Int32) : Prop := 0 ≤ c ∧ c ≤ 262143
abbrev vm_IH : Type := Nat → Nat → Int32
abbrev vm_FH : Type := Nat → Nat → UInt32
def R_pic (B : Nat) (I : vm_IH) (wd hg : Nat → Int32) (px : Nat → Nat → Int32) : Prop := ∀ p, p < 4 → ∃ w h, w ≤ 12 ∧ h ≤ 12 ∧ (w = 0 → h = 0) ∧ (0 < w → 0 < h) ∧ (I (B + 17 + 2 * p) 0 = nI w ∧ I (B + 17 + 2 * p) 1 = nI h) ∧ (wd p = nI w ∧ hg p = nI h) ∧ ∀ k, k < 144 → I (B + 18 + 2 * p) k = px p k ∧ sp_col (px p k)
def R_pal (B : Nat) (I : vm_IH) (em : Nat → Int32) (ec el : Nat → Nat → Int32) : Prop := ∀ p, p < 4 → ∃ n, n ≤ 16 ∧ I (B + 25 + 3 * p) 0 = nI n ∧ em p = nI n ∧ ∀ e, e < n → (I (B + 26 + 3 * p) e = ec p e ∧ sp_col (ec p e)) ∧ I (B + 27 + 3 * p) e = el p e ∧ (el p e = 0 ∨ el p e = 1)
def R_rul (B : Nat) (I : vm_IH) (r0 r1 r2 r3 : Int32) : Prop := ∃ m kn k g, (m < 4 ∧ kn < 5 ∧ k < 3 ∧ g ≤ 63) ∧ (I (B + 3) 0 = nI m ∧ I (B + 3) 1 = nI kn ∧ I (B + 3) 2 = nI k ∧ I (B + 3) 3 = nI g) ∧ r0 = nI m ∧ r1 = nI kn ∧ r2 = nI k ∧ r3 = nI g
def R_sht (B : Nat) (I : vm_IH) (F : vm_FH) (sw sh sy : Int32) (sf se st : Nat → Int32) (lo : Nat → UInt32) : Prop := (I (B + 4) 0 = -1 ∧ sw = 0) ∨ ∃ wy w h, (wy < 5 ∧ 0 < w ∧ w ≤ 12 ∧ 0 < h ∧ h ≤ 12) ∧ (I (B + 4) 0 = nI wy ∧ I (B + 4) 1 = nI w ∧ I (B + 4) 2 = nI h) ∧ (sw = nI w ∧ sh = nI h ∧ sy = nI wy) ∧ (∀ k, k < w * h → I (B + 5) k = sf k ∧ I (B + 6) k = se k ∧ I (B + 7) k = st k) ∧ ∀ c, c < 3 → F (B + 8) c = lo c ∧ (∃ s c' q, vf_d (lo c) = .fin s c' q) ∧ lo c ≠ 2147483648
def R_see (B : Nat) (I : vm_IH) (n : Int32) (sx sy se : Nat → Int32) : Prop := ∃ v, v ≤ 6 ∧ I (B + 11) 2 = nI v ∧ n = nI v ∧ ∀ k, k < v → ∃ x y, (x < 12 ∧ y < 12) ∧ (I (B + 12) (3 * k + 0) = nI x ∧ I (B + 12) (3 * k + 1) = nI y) ∧ (sx k = nI x ∧ sy k = nI y) ∧ I (B + 12) (3 * k + 2) = se k
def R_pln (B : Nat) (I : vm_IH) (n : Int32) (pc pn : Nat → Int32) : Prop := ∃ v, v ≤ 8 ∧ I (B + 13) 2 = nI v ∧ n = nI v ∧ ∀ k, k < v → ∃ c m, sp_pb c m ∧ (I (B + 14) (3 * k + 0) = nI c ∧ I (B + 14) (3 * k + 1) = nI m) ∧ pc k = nI c ∧ pn k = nI m
def R_bok (B : Nat) (I : vm_IH) (n : Int32) (bp bm : Nat → Int32) : Prop := ∃ v, v ≤ 8 ∧ I (B + 15) 2 = nI v ∧ n = nI v ∧ ∀ k, k < v → ∃ p m, (p < 4 ∧ m ≤ 16) ∧ (I (B + 16) (3 * k + 0) = nI p ∧ I (B + 16) (3 * k + 1) = nI m) ∧ bp k = nI p ∧ bm k = nI m
def R_mst (I : vm_IH) : Prop := I (1 + 11) 0 = nI 6 ∧ I (1 + 13) 0 = nI 8 ∧ I (1 + 15) 0 = nI 8
def R_wrk (I : vm_IH) : Prop := ∃ u, u ≤ 6000 ∧ I 0 8 = nI u ∧ I 152 10 = nI u
def R_txt (I : vm_IH) : Prop := ∃ n, n ≤ 100 ∧ I 135 1 = nI n ∧ I 152 25 = nI n ∧ ∀ k, k < n → I 136 k = I 165 k ∧ 0 ≤ I 165 k ∧ I 165 k ≤ 127
def R_tap (I : vm_IH) : Prop := ∀ t, t < 6 → ∃ m, m ≤ 150 ∧ (I (139 + 1 + 2 * t) 1 = nI m ∧ I 192 t = nI m) ∧ I (139 + 1 + 2 * t) 0 = I 191 t ∧ (I 191 t = -1 ∧ m = 0 ∨ ∃ s, s < 4 ∧ I 191 t = nI s) ∧ ∀ k, k < 150 → I (139 + 2 + 2 * t) k = I 193 (150 * t + k)
def R_nan (F : vm_FH) : Prop := ∀ i, i < 6 → vf_ok (F 179 i)
/-- what is kept for an image -/
def R_kep (I : vm_IH) (F : vm_FH) : Prop :=
  R_pic 38 I (fun p => I 189 (134 + p)) (fun p => I 189 (138 + p)) (fun p k => I 189 (142 + (144 * p + k))) ∧
  R_pal 38 I (fun p => I 189 p) (fun p e => I 189 (4 + (16 * p + e))) (fun p e => I 189 (68 + (16 * p + e))) ∧
  R_rul 38 I (I 189 132) (I 189 133) (I 189 1203) (I 189 1204) ∧
  R_sht 38 I F (I 189 1150) (I 189 1151) (I 189 1152) (fun k => I 189 (718 + k)) (fun k => I 189 (862 + k)) (fun k => I 189 (1006 + k)) (F 190) ∧
  R_see 38 I (I 189 1205) (fun k => I 189 (1153 + k)) (fun k => I 189 (1159 + k)) (fun k => I 189 (1165 + k)) ∧
  R_pln 38 I (I 189 1206) (fun k => I 189 (1171 + k)) (fun k => I 189 (1179 + k)) ∧
  R_bok 38 I (I 189 1207) (fun k => I 189 (1187 + k)) (fun k => I 189 (1195 + k)) ∧ ∀ i, i < 3 → vf_ok (F 190 i)
def R_img (I : vm_IH) (F : vm_FH) : Prop := (I 0 7 = 0 ∧ I 152 54 = 0) ∨ (I 0 7 = 1 ∧ I 152 54 = 1 ∧ R_kep I F)
def Rpic (I : vm_IH) : Prop := R_pic 1 I (I 153) (I 154) (fun p k => I 155 (144 * p + k))
def Rpal (I : vm_IH) : Prop := R_pal 1 I (I 156) (fun p e => I 157 (16 * p + e)) (fun p e => I 158 (16 * p + e))
def Rrul (I : vm_IH) : Prop := R_rul 1 I (I 152 6) (I 152 7) (I 152 8) (I 152 9)
def Rsht (I : vm_IH) (F : vm_FH) : Prop := R_sht 1 I F (I 173 0) (I 174 0) (I 175 0) (I 176) (I 177) (I 178) (F 179)
def Rsee (I : vm_IH) : Prop := R_see 1 I (I 152 49) (I 182) (I 183) (I 184)
def Rpln (I : vm_IH) : Prop := R_pln 1 I (I 152 50) (I 185) (I 186)
def Rbok (I : vm_IH) : Prop := R_bok 1 I (I 152 51) (I 187) (I 188)
def Rel (I : vm_IH) (F : vm_FH) : Prop := Rpic I ∧ Rpal I ∧ Rrul I ∧ Rsht I F ∧ Rsee I ∧ Rpln I ∧ Rbok I ∧ R_mst I ∧ R_wrk I ∧ R_txt I ∧ R_tap I ∧ R_img I F ∧ R_nan F
theorem R_pic_c {B B' : Nat} {I I' : vm_IH} {wd hg wd' hg' : Nat → Int32} {px px' : Nat → Nat → Int32} (h : R_pic B I wd hg px) (ho : ∀ p, p < 4 → I' (B' + 17 + 2 * p) 0 = I (B + 17 + 2 * p) 0 ∧ I' (B' + 17 + 2 * p) 1 = I (B + 17 + 2 * p) 1 ∧ ∀ k, k < 144 → I' (B' + 18 + 2 * p) k = I (B + 18 + 2 * p) k) (hw : ∀ p, p < 4 → wd' p = wd p) (hh : ∀ p, p < 4 → hg' p = hg p) (hx : ∀ p, p < 4 → ∀ k, k < 144 → px' p k = px p k) : R_pic B' I' wd' hg' px' := by
  intro p hp
  obtain ⟨w, a, h1, h2, h3, h4, h5, h6, h7⟩ := h p hp
  obtain ⟨o1, o2, o3⟩ := ho p hp
  exact ⟨w, a, h1, h2, h3, h4, ⟨o1.trans h5.1, o2.trans h5.2⟩, ⟨(hw p hp).trans h6.1, (hh p hp).trans h6.2⟩, fun k hk => by rw [o3 k hk, hx p hp k hk]; exact h7 k hk⟩
theorem R_pal_c {B B' : Nat} {I I' : vm_IH} {em em' : Nat → Int32} {ec el ec' el' : Nat → Nat → Int32} (h : R_pal B I em ec el) (ho : ∀ p, p < 4 → I' (B' + 25 + 3 * p) 0 = I (B + 25 + 3 * p) 0 ∧ (∀ k, k < 16 → I' (B' + 26 + 3 * p) k = I (B + 26 + 3 * p) k) ∧ ∀ k, k < 16 → I' (B' + 27 + 3 * p) k = I (B + 27 + 3 * p) k) (hm : ∀ p, p < 4 → em' p = em p) (hc : ∀ p, p < 4 → ∀ e, e < 16 → ec' p e = ec p e) (hl : ∀ p, p < 4 → ∀ e, e < 16 → el' p e = el p e) : R_pal B' I' em' ec' el' := by
  intro p hp
  obtain ⟨n, h1, h2, h3, h4⟩ := h p hp
  obtain ⟨o1, o2, o3⟩ := ho p hp
  refine ⟨n, h1, o1.trans h2, (hm p hp).trans h3, fun e he => ?_⟩
  rw [o2 e (by omega), o3 e (by omega), hc p hp e (by omega), hl p hp e (by omega)]
  exact h4 e he
theorem R_rul_c {B B' : Nat} {I I' : vm_IH} {r0 r1 r2 r3 r0' r1' r2' r3' : Int32} (h : R_rul B I r0 r1 r2 r3) (ho : ∀ k, k < 4 → I' (B' + 3) k = I (B + 3) k) (h0 : r0' = r0) (h1 : r1' = r1) (h2 : r2' = r2) (h3 : r3' = r3) : R_rul B' I' r0' r1' r2' r3' := by
  obtain ⟨m, kn, k, g, a, b, c⟩ := h
  rw [h0, h1, h2, h3]
  exact ⟨m, kn, k, g, a, ⟨(ho 0 (by decide)).trans b.1, (ho 1 (by decide)).trans b.2.1, (ho 2 (by decide)).trans b.2.2.1, (ho 3 (by decide)).trans b.2.2.2⟩, c⟩
theorem R_sht_c {B B' : Nat} {I I' : vm_IH} {F F' : vm_FH} {sw sh sy sw' sh' sy' : Int32} {sf se st sf' se' st' : Nat → Int32} {lo lo' : Nat → UInt32} (h : R_sht B I F sw sh sy sf se st lo) (ho : I' (B' + 4) 0 = I (B + 4) 0 ∧ I' (B' + 4) 1 = I (B + 4) 1 ∧ I' (B' + 4) 2 = I (B + 4) 2) (h5 : ∀ k, k < 144 → I' (B' + 5) k = I (B + 5) k) (h6 : ∀ k, k < 144 → I' (B' + 6) k = I (B + 6) k) (h7 : ∀ k, k < 144 → I' (B' + 7) k = I (B + 7) k) (hF : ∀ c, c < 3 → F' (B' + 8) c = F (B + 8) c) (r1 : sw' = sw) (r2 : sh' = sh) (r3 : sy' = sy) (s1 : ∀ k, k < 144 → sf' k = sf k) (s2 : ∀ k, k < 144 → se' k = se k) (s3 : ∀ k, k < 144 → st' k = st k) (hl : ∀ c, c < 3 → lo' c = lo c) : R_sht B' I' F' sw' sh' sy' sf' se' st' lo' := by
  rcases h with ⟨a, b⟩ | ⟨wy, w, a, hb, hc, hr, hk, hF0⟩
  · exact Or.inl ⟨ho.1.trans a, r1.trans b⟩
  · have hwh := vm_mul144 hb.2.2.1 hb.2.2.2.2
    refine Or.inr ⟨wy, w, a, hb, ⟨ho.1.trans hc.1, ho.2.1.trans hc.2.1, ho.2.2.trans hc.2.2⟩, ⟨r1.trans hr.1, r2.trans hr.2.1, r3.trans hr.2.2⟩, fun k hk2 => ?_, fun c hc2 => ?_⟩
    · rw [h5 k (by omega), h6 k (by omega), h7 k (by omega), s1 k (by omega), s2 k (by omega), s3 k (by omega)]
      exact hk k hk2
    · rw [hF c hc2, hl c hc2]
      exact hF0 c hc2
theorem R_see_c {B B' : Nat} {I I' : vm_IH} {n n' : Int32} {sx sy se sx' sy' se' : Nat → Int32} (h : R_see B I n sx sy se) (ho : I' (B' + 11) 2 = I (B + 11) 2) (hr : ∀ k, k < 24 → I' (B' + 12) k = I (B + 12) k) (hn : n' = n) (h1 : ∀ k, k < 6 → sx' k = sx k) (h2 : ∀ k, k < 6 → sy' k = sy k) (h3 : ∀ k, k < 6 → se' k = se k) : R_see B' I' n' sx' sy' se' := by
  obtain ⟨v, a, b, c, d⟩ := h
  refine ⟨v, a, ho.trans b, hn.trans c, fun k hk => ?_⟩
  obtain ⟨x, y, z1, z2, z3, z4⟩ := d k hk
  exact ⟨x, y, z1, ⟨(hr _ (by omega)).trans z2.1, (hr _ (by omega)).trans z2.2⟩, ⟨(h1 k (by omega)).trans z3.1, (h2 k (by omega)).trans z3.2⟩, ((hr _ (by omega)).trans z4).trans (h3 k (by omega)).symm⟩
theorem R_pln_c {B B' : Nat} {I I' : vm_IH} {n n' : Int32} {pc pn pc' pn' : Nat → Int32} (h : R_pln B I n pc pn) (ho : I' (B' + 13) 2 = I (B + 13) 2) (hr : ∀ k, k < 24 → I' (B' + 14) k = I (B + 14) k) (hn : n' = n) (h1 : ∀ k, k < 8 → pc' k = pc k) (h2 : ∀ k, k < 8 → pn' k = pn k) : R_pln B' I' n' pc' pn' := by
  obtain ⟨v, a, b, c, d⟩ := h
  refine ⟨v, a, ho.trans b, hn.trans c, fun k hk => ?_⟩
  obtain ⟨x, y, z1, z2, z3, z4⟩ := d k hk
  exact ⟨x, y, z1, ⟨(hr _ (by omega)).trans z2.1, (hr _ (by omega)).trans z2.2⟩, (h1 k (by omega)).trans z3, (h2 k (by omega)).trans z4⟩
theorem R_bok_c {B B' : Nat} {I I' : vm_IH} {n n' : Int32} {pc pn pc' pn' : Nat → Int32} (h : R_bok B I n pc pn) (ho : I' (B' + 15) 2 = I (B + 15) 2) (hr : ∀ k, k < 24 → I' (B' + 16) k = I (B + 16) k) (hn : n' = n) (h1 : ∀ k, k < 8 → pc' k = pc k) (h2 : ∀ k, k < 8 → pn' k = pn k) : R_bok B' I' n' pc' pn' := by
  obtain ⟨v, a, b, c, d⟩ := h
  refine ⟨v, a, ho.trans b, hn.trans c, fun k hk => ?_⟩
  obtain ⟨x, y, z1, z2, z3, z4⟩ := d k hk
  exact ⟨x, y, z1, ⟨(hr _ (by omega)).trans z2.1, (hr _ (by omega)).trans z2.2⟩, (h1 k (by omega)).trans z3, (h2 k (by omega)).trans z4⟩
/-- parts whose rows are as they were -/
theorem Rpic_r {I I' : vm_IH} (h : Rpic I) (hc : ∀ a, 18 ≤ a → a ≤ 25 → I' a = I a) (h3 : I' 153 = I 153) (h4 : I' 154 = I 154) (h5 : I' 155 = I 155) : Rpic I' := by
  unfold Rpic
  rw [h3, h4, h5]
  exact R_pic_c h (fun p hp => ⟨by rw [hc _ (by omega) (by omega)], by rw [hc _ (by omega) (by omega)], fun k _ => by rw [hc _ (by omega) (by omega)]⟩) (fun _ _ => rfl) (fun _ _ => rfl) (fun _ _ _ _ => rfl)
theorem Rpal_r {I I' : vm_IH} (h : Rpal I) (hc : ∀ a, 26 ≤ a → a ≤ 37 → I' a = I a) (h3 : I' 156 = I 156) (h4 : I' 157 = I 157) (h5 : I' 158 = I 158) : Rpal I' := by
  unfold Rpal
  rw [h3, h4, h5]
  exact R_pal_c h (fun p hp => ⟨by rw [hc _ (by omega) (by omega)], fun k _ => by rw [hc _ (by omega) (by omega)], fun k _ => by rw [hc _ (by omega) (by omega)]⟩) (fun _ _ => rfl) (fun _ _ _ _ => rfl) (fun _ _ _ _ => rfl)
theorem Rrul_r {I I' : vm_IH} (h : Rrul I) (hc : I' 4 = I 4) (h6 : I' 152 6 = I 152 6) (h7 : I' 152 7 = I 152 7) (h8 : I' 152 8 = I 152 8) (h9 : I' 152 9 = I 152 9) : Rrul I' := R_rul_c h (fun k _ => congrFun hc k) h6 h7 h8 h9
theorem Rsht_r {I I' : vm_IH} {F F' : vm_FH} (h : Rsht I F) (hc : ∀ a, 5 ≤ a → a ≤ 8 → I' a = I a) (hF : F' 9 = F 9) (h3 : I' 173 0 = I 173 0) (h4 : I' 174 0 = I 174 0) (h5 : I' 175 0 = I 175 0) (h6 : ∀ k, k < 144 → I' 176 k = I 176 k) (h7 : ∀ k, k < 144 → I' 177 k = I 177 k) (h8 : ∀ k, k < 144 → I' 178 k = I 178 k) (h9 : ∀ c, c < 3 → F' 179 c = F 179 c) : Rsht I' F' :=
  R_sht_c h ⟨by rw [hc _ (by decide) (by decide)], by rw [hc _ (by decide) (by decide)], by rw [hc _ (by decide) (by decide)]⟩ (fun k _ => by rw [hc _ (by decide) (by decide)]) (fun k _ => by rw [hc _ (by decide) (by decide)]) (fun k _ => by rw [hc _ (by decide) (by decide)]) (fun c _ => congrFun hF c) h3 h4 h5 h6 h7 h8 h9
theorem Rsee_r {I I' : vm_IH} (h : Rsee I) (hc : I' 12 = I 12) (hd : I' 13 = I 13) (h4 : I' 152 49 = I 152 49) (h5 : I' 182 = I 182) (h6 : I' 183 = I 183) (h7 : I' 184 = I 184) : Rsee I' := R_see_c h (congrFun hc 2) (fun k _ => congrFun hd k) h4 (fun k _ => congrFun h5 k) (fun k _ => congrFun h6 k) (fun k _ => congrFun h7 k)
theorem Rpln_r {I I' : vm_IH} (h : Rpln I) (hc : I' 14 = I 14) (hd : I' 15 = I 15) (h4 : I' 152 50 = I 152 50) (h5 : I' 185 = I 185) (h6 : I' 186 = I 186) : Rpln I' := R_pln_c h (congrFun hc 2) (fun k _ => congrFun hd k) h4 (fun k _ => congrFun h5 k) (fun k _ => congrFun h6 k)
theorem Rbok_r {I I' : vm_IH} (h : Rbok I) (hc : I' 16 = I 16) (hd : I' 17 = I 17) (h4 : I' 152 51 = I 152 51) (h5 : I' 187 = I 187) (h6 : I' 188 = I 188) : Rbok I' := R_bok_c h (congrFun hc 2) (fun k _ => congrFun hd k) h4 (fun k _ => congrFun h5 k) (fun k _ => congrFun h6 k)
theorem Rmst_r {I I' : vm_IH} (h : R_mst I) (h1 : I' 12 0 = I 12 0) (h2 : I' 14 0 = I 14 0) (h3 : I' 16 0 = I 16 0) : R_mst I' := ⟨h1.trans h.1, h2.trans h.2.1, h3.trans h.2.2⟩
theorem Rwrk_r {I I' : vm_IH} (h : R_wrk I) (h1 : I' 0 8 = I 0 8) (h2 : I' 152 10 = I 152 10) : R_wrk I' := by
  obtain ⟨u, a, b, c⟩ := h
  exact ⟨u, a, h1.trans b, h2.trans c⟩
theorem Rtxt_r {I I' : vm_IH} (h : R_txt I) (h1 : I' 135 1 = I 135 1) (h2 : I' 136 = I 136) (h3 : I' 152 25 = I 152 25) (h4 : I' 165 = I 165) : R_txt I' := by
  obtain ⟨n, a, b, c, d⟩ := h
  refine ⟨n, a, h1.trans b, h3.trans c, ?_⟩
  rw [h2, h4]
  exact d
theorem Rtap_r {I I' : vm_IH} (h : R_tap I) (hc : ∀ a, 140 ≤ a → a ≤ 151 → I' a = I a) (h1 : I' 191 = I 191) (h2 : I' 192 = I 192) (h3 : I' 193 = I 193) : R_tap I' := by
  intro t ht
  obtain ⟨m, a, b, c, d, e⟩ := h t ht
  refine ⟨m, a, ?_⟩
  rw [hc (139 + 1 + 2 * t) (by omega) (by omega), hc (139 + 2 + 2 * t) (by omega) (by omega), h1, h2, h3]
  exact ⟨b, c, d, e⟩
theorem Rkep_r {I I' : vm_IH} {F F' : vm_FH} (h : R_kep I F) (hc : ∀ a, 38 ≤ a → a < 75 → I' a = I a) (hF : F' 46 = F 46) (h9 : ∀ k, k < 1208 → I' 189 k = I 189 k) (h0 : F' 190 = F 190) : R_kep I' F' := by
  obtain ⟨a, b, c, d, e, f, g, n⟩ := h
  refine ⟨?_, ?_, ?_, ?_, ?_, ?_, ?_, fun i hi => by rw [h0]; exact n i hi⟩
  · exact R_pic_c a (fun p hp => ⟨by rw [hc _ (by omega) (by omega)], by rw [hc _ (by omega) (by omega)], fun k _ => by rw [hc _ (by omega) (by omega)]⟩) (fun p hp => h9 _ (by omega)) (fun p hp => h9 _ (by omega)) (fun p hp k hk => h9 _ (by omega))
  · exact R_pal_c b (fun p hp => ⟨by rw [hc _ (by omega) (by omega)], fun k _ => by rw [hc _ (by omega) (by omega)], fun k _ => by rw [hc _ (by omega) (by omega)]⟩) (fun p hp => h9 _ (by omega)) (fun p hp k hk => h9 _ (by omega)) (fun p hp k hk => h9 _ (by omega))
  · exact R_rul_c c (fun k _ => by rw [hc _ (by omega) (by omega)]) (h9 _ (by decide)) (h9 _ (by decide)) (h9 _ (by decide)) (h9 _ (by decide))
  · exact R_sht_c d ⟨by rw [hc _ (by decide) (by decide)], by rw [hc _ (by decide) (by decide)], by rw [hc _ (by decide) (by decide)]⟩ (fun k _ => by rw [hc _ (by decide) (by decide)]) (fun k _ => by rw [hc _ (by decide) (by decide)]) (fun k _ => by rw [hc _ (by decide) (by decide)]) (fun c _ => congrFun hF c) (h9 _ (by decide)) (h9 _ (by decide)) (h9 _ (by decide)) (fun k hk => h9 _ (by omega)) (fun k hk => h9 _ (by omega)) (fun k hk => h9 _ (by omega)) (fun c _ => congrFun h0 c)
  · exact R_see_c e (by rw [hc _ (by decide) (by decide)]) (fun k _ => by rw [hc _ (by decide) (by decide)]) (h9 _ (by decide)) (fun k hk => h9 _ (by omega)) (fun k hk => h9 _ (by omega)) (fun k hk => h9 _ (by omega))
  · exact R_pln_c f (by rw [hc _ (by decide) (by decide)]) (fun k _ => by rw [hc _ (by decide) (by decide)]) (h9 _ (by decide)) (fun k hk => h9 _ (by omega)) (fun k hk => h9 _ (by omega))
  · exact R_bok_c g (by rw [hc _ (by decide) (by decide)]) (fun k _ => by rw [hc _ (by decide) (by decide)]) (h9 _ (by decide)) (fun k hk => h9 _ (by omega)) (fun k hk => h9 _ (by omega))
theorem Rimg_r {I I' : vm_IH} {F F' : vm_FH} (h : R_img I F) (h7 : I' 0 7 = I 0 7) (h54 : I' 152 54 = I 152 54) (hc : ∀ a, 38 ≤ a → a < 75 → I' a = I a) (hF : F' 46 = F 46) (h9 : ∀ k, k < 1208 → I' 189 k = I 189 k) (h0 : F' 190 = F 190) : R_img I' F' := by
  rcases h with ⟨a, b⟩ | ⟨a, b, c⟩
  · exact Or.inl ⟨h7.trans a, h54.trans b⟩
  · exact Or.inr ⟨h7.trans a, h54.trans b, Rkep_r c hc hF h9 h0⟩
theorem Rnan_r {F F' : vm_FH} (h : R_nan F) (h9 : F' 179 = F 179) : R_nan F' := by
  unfold R_nan
  rw [h9]
  exact h
/-- two methods answer the same from a related heap, and leave a related one -/
def vm_isL (M : vm_M) : Bool := match vm_mt M with
  | some .long => true
  | _ => false
def vm_ri (M : vm_M) (r : Value) : Prop := (vm_isL M = true ∧ ∃ v, r = .long v) ∨ (vm_isL M = false ∧ ∃ v, r = .int v)
theorem vm_ri.i {M : vm_M} {v : Int32} (h : vm_isL M = false) : vm_ri M (.int v) := Or.inr ⟨h, v, rfl⟩
theorem vm_ri.l {M : vm_M} {v : Int64} (h : vm_isL M = true) : vm_ri M (.long v) := Or.inl ⟨h, v, rfl⟩
def vm_Cl (l : Launch) (X : vm_Cx) (G : List vm_Sh) (I : vm_IH) (F : vm_FH) (M M' : vm_M) (av : List Value) : Prop := ∃ r I1 F1 I2 F2, vm_ri M r ∧ vm_K l X M (.ref 0 :: av) (G, I, F) (some r) (G, I1, F1) ∧ vm_K l X M' (.ref 152 :: av) (G, I1, F1) (some r) (G, I2, F2) ∧ Rel I2 F2
theorem vm_Cl.pure {l : Launch} {X : vm_Cx} {G : List vm_Sh} {I : vm_IH} {F : vm_FH} {M M' : vm_M} {av : List Value} {r : Value} (h1 : vm_K l X M (.ref 0 :: av) (G, I, F) (some r) (G, I, F)) (h2 : vm_K l X M' (.ref 152 :: av) (G, I, F) (some r) (G, I, F)) (h : Rel I F) (ht : vm_ri M r := by first | exact vm_ri.i rfl | exact vm_ri.l rfl) : vm_Cl l X G I F M M' av := ⟨r, I, F, I, F, ht, h1, h2, h⟩
theorem Rel.pic {I : vm_IH} {F : vm_FH} (h : Rel I F) : Rpic I := h.1
theorem Rel.pal {I : vm_IH} {F : vm_FH} (h : Rel I F) : Rpal I := h.2.1
theorem Rel.rul {I : vm_IH} {F : vm_FH} (h : Rel I F) : Rrul I := h.2.2.1
theorem Rel.sht {I : vm_IH} {F : vm_FH} (h : Rel I F) : Rsht I F := h.2.2.2.1
theorem Rel.see {I : vm_IH} {F : vm_FH} (h : Rel I F) : Rsee I := h.2.2.2.2.1
theorem Rel.pln {I : vm_IH} {F : vm_FH} (h : Rel I F) : Rpln I := h.2.2.2.2.2.1
theorem Rel.bok {I : vm_IH} {F : vm_FH} (h : Rel I F) : Rbok I := h.2.2.2.2.2.2.1
theorem Rel.mst {I : vm_IH} {F : vm_FH} (h : Rel I F) : R_mst I := h.2.2.2.2.2.2.2.1
theorem Rel.wrk {I : vm_IH} {F : vm_FH} (h : Rel I F) : R_wrk I := h.2.2.2.2.2.2.2.2.1
theorem Rel.txt {I : vm_IH} {F : vm_FH} (h : Rel I F) : R_txt I := h.2.2.2.2.2.2.2.2.2.1
theorem Rel.tap {I : vm_IH} {F : vm_FH} (h : Rel I F) : R_tap I := h.2.2.2.2.2.2.2.2.2.2.1
theorem Rel.img {I : vm_IH} {F : vm_FH} (h : Rel I F) : R_img I F := h.2.2.2.2.2.2.2.2.2.2.2.1
theorem Rel.nan {I : vm_IH} {F : vm_FH} (h : Rel I F) : R_nan F := h.2.2.2.2.2.2.2.2.2.2.2.2
theorem vm_nat {x b : Int32} {m : Nat} (h : 0 ≤ x ∧ x ≤ b) (hb : b = nI m) (hm : m < 2147483648) : ∃ n, n ≤ m ∧ x = nI n := by
  subst hb
  have e : x = nI x.toNatClampNeg := vm_cl_i (vm_nle_lt h.1)
  refine ⟨x.toNatClampNeg, ?_, e⟩
  have h2 := h.2
  rw [Int32.le_iff_toInt_le, nI_toInt hm] at h2
  show x.toInt.toNat ≤ m
  omega
