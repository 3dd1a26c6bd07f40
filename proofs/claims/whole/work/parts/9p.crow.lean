/-! the class's face: rows, worth, lay -/
/-- rows: sorts (-1: no row), lengths, numbers -/
abbrev RR : Type := (Nat → Int) × (Nat → Int) × (Nat → Int)
def okRw (ρ : RR) : Prop := ∀ x, x < 4 → -1 ≤ ρ.1 x ∧ ρ.1 x ≤ 3 ∧ 0 ≤ ρ.2.1 x ∧ ρ.2.1 x ≤ 30
def cRw (ρ : RR) (G : Nat → Nat → Int) : Prop := okRw ρ ∧ (∀ x, x < 4 → xb (G o_Ro 3) x = decide (ρ.1 x ≠ -1) ∧ (ρ.1 x ≠ -1 → G ro_sorts x = ρ.1 x) ∧ G ro_lengths x = ρ.2.1 x) ∧ ∀ j, j < 120 → G ro_cells j = ρ.2.2 j
theorem cBk.b {G G' : Nat → Nat → Int} (b : cBk G) (f : G' 54 = G 54) : cBk G' := fun m q h1 h2 => by
  have := b m q h1 h2
  unfold g8 at this ⊢
  rw [show G' cr_back = G cr_back from f]
  exact this
theorem cRw.same {ρ : RR} {G G' : Nat → Nat → Int} (r : cRw ρ G) (e : ∀ i, 59 ≤ i → i < 63 → G' i = G i) : cRw ρ G' := by
  refine ⟨r.1, fun x hx => ?_, fun j hj => ?_⟩
  · rw [e o_Ro (by decide) (by decide), e ro_sorts (by decide) (by decide), e ro_lengths (by decide) (by decide)]
    exact r.2.1 x hx
  · rw [e ro_cells (by decide) (by decide)]
    exact r.2.2 j hj
/-- a call of the face that changes rows -/
def wRow (h : HH) (ρ' : RR) (G : Nat → Nat → Int) (E : Int → String) (code : Int) (v : Option XV) : XRes → XM → Prop := fun r τ => ∃ G', τ = (S0, G') ∧ (∀ i, (i < 26 ∨ 63 ≤ i) → G' i = G i) ∧ cF h G' ∧ cRw ρ' G' ∧ ((code = 0 ∧ r = .inl v) ∨ (code ≠ 0 ∧ r = .inr (E code)))
theorem wRow.no {h : HH} {ρ ρ' : RR} {G : Nat → Nat → Int} {E : Int → String} {C n : Int} {v : Option XV} {X : String} (q : cF h G) (rr : cRw ρ G) (e' : ρ' = ρ) (e : C = n) (hn : n ≠ 0) (hE : E n = X) : wRow h ρ' G E C v (.inr X) (S0, G) :=
  ⟨G, rfl, fun _ _ => rfl, q, by rw [e']; exact rr, Or.inr ⟨by rw [e]; exact hn, by rw [e, hE]⟩⟩
noncomputable def v_w (h : HH) (S : Nat → Bool) (sh : Nat → Nat → Bool) (y : Nat) : Int := @ite Int (∃ m p, p < h.2 0 ∧ f_bad h S y m p) (Classical.propDecidable _) (-1) (f_wv h S sh y)
theorem v_w_is {h : HH} {S : Nat → Bool} {sh : Nat → Nat → Bool} {y : Nat} {V : Int} (z : ((∃ m p, p < h.2 0 ∧ f_bad h S y m p) ∧ V = -1) ∨ ((∀ m p, p < h.2 0 → ¬ f_bad h S y m p) ∧ V = f_wv h S sh y)) : V = v_w h S sh y := by
  unfold v_w
  rcases z with ⟨z1, z2⟩ | ⟨z1, z2⟩
  · rw [if_pos z1, z2]
  · rw [if_neg (fun ⟨m, p, hp, hb⟩ => z1 m p hp hb), z2]
theorem f_lv_S {h : HH} (hh : Hwf h) {S S' : Nat → Bool} {y : Nat} (e : ∀ n, n / 16 ≤ y → S n = S' n) (p m : Nat) : f_lv h S y p m = f_lv h S' y p m := by
  unfold f_lv
  congr 1
  refine su_congr (fun w hw => ?_)
  have o := f_oth_bd hh (p : Int) hw
  have bb := hh.1
  unfold f_lw
  generalize h.1 1 w 2 * h.1 9 0 1 = z
  by_cases c : (m : Int) + z ≤ y
  · rw [e (16 * ((m : Int) + z).toNat + (f_oth h p w).toNat) (by omega)]
  · rw [if_neg (fun q => c q.2.1), if_neg (fun q => c q.2.1)]
theorem v_w_cg {h : HH} (hh : Hwf h) {S S' : Nat → Bool} {sh sh' : Nat → Nat → Bool} {y : Nat} (e : ∀ n, n / 16 ≤ y → S n = S' n) (e2 : ∀ m p, m ≤ y → p < h.2 0 → sh m p = sh' m p) : v_w h S sh y = v_w h S' sh' y := by
  have bb := hh.1
  have b1 : ∀ m p, p < h.2 0 → (f_bad h S y m p ↔ f_bad h S' y m p) := fun m p hp => by
    unfold f_bad
    by_cases c : m < y
    · rw [e (16 * m + 8 + p) (by omega), e (16 * (m + 1) + p) (by omega)]
    · exact ⟨fun z => absurd z.1 c, fun z => absurd z.1 c⟩
  have b2 : f_wv h S sh y = f_wv h S' sh' y := by
    rw [f_wv_sh e2]
    unfold f_wv
    congr 1
    · refine su_congr (fun g hg => ?_)
      have gg := hh.2.2.2.2.2.2.1 g hg
      unfold f_wg
      by_cases c : h.1 5 g 2 ≤ y
      · rw [e (16 * (h.1 5 g 2).toNat + (h.1 5 g 0).toNat) (by omega)]
      · rw [if_neg (fun q => c q.1), if_neg (fun q => c q.1)]
    · refine su_congr (fun m hm => su_congr (fun p hp => ?_))
      unfold f_wp
      rw [e (16 * m + 8 + p) (by omega), e (16 * m + p) (by omega), f_lv_S hh e]
  unfold v_w
  by_cases c : ∃ m p, p < h.2 0 ∧ f_bad h S y m p
  · obtain ⟨m, p, hp, hb⟩ := id c
    rw [if_pos c, if_pos ⟨m, p, hp, (b1 m p hp).1 hb⟩]
  · rw [if_neg c, if_neg (fun ⟨m, p, hp, hb⟩ => c ⟨m, p, hp, (b1 m p hp).2 hb⟩), b2]
def rS (ρ : RR) (x n : Nat) : Bool := xl (ρ.2.2 (30 * x + n / 16)) (n % 16)
def c_woR (h : HH) (ρ : RR) (a b k f y row : Int) : Int := if f_wi f (-1) (h.2 2 - 1) = 0 ∨ f_wi row 0 3 = 0 then 1 else if f_co a b k = 0 ∨ f_wi y 0 20 = 0 then 2 else if ρ.1 row.toNat = -1 then 3 else if ρ.2.1 row.toNat ≤ y then 4 else 0
noncomputable def v_woR (h : HH) (ρ : RR) (a b k f y row : Int) : Int := if c_woR h ρ a b k f y row = 0 then v_w h (rS ρ row.toNat) (f_sh h (a, b, k, f)) y.toNat else 0
section WRo
variable {h : HH} {ρ : RR} {G : Nat → Nat → Int}
theorem w_worth (hh : Hwf h) (q : cF h G) (rr : cRw ρ G) (a b k f y row : Int) : x_M y_F_worth [oFa, xI a, xI b, xI k, xI f, xI y, xI row] (S0, G) (wAns h G eNASB (c_woR h ρ a b k f y row) (some (xI (v_woR h ρ a b k f y row)))) := by
  have bb := hh.1
  obtain ⟨⟨r, fk, ft⟩, bk⟩ := id q
  refine x_of 0 rfl (Nat.le_of_ble_eq_true rfl) ?_
  show x_A y_F_worth 0 [some oFa, some (xI a), some (xI b), some (xI k), some (xI f), some (xI y), some (xI row)] [] (S0, G) 0 0 _
  generalize hV : v_woR h ρ a b k f y row = V
  generalize hC : c_woR h ρ a b k f y row = C
  generalize hQ : wAns h G eNASB C (some (xI V)) = Q
  have no1 : C = 1 → Q (.inr E_NS) (S0, G) := fun e => by rw [← hQ]; exact wAns.no q e (by decide) rfl
  have no2 : C = 2 → Q (.inr E_IA) (S0, G) := fun e => by rw [← hQ]; exact wAns.no q e (by decide) rfl
  have no3 : C = 3 → Q (.inr E_IS) (S0, G) := fun e => by rw [← hQ]; exact wAns.no q e (by decide) rfl
  have no4 : C = 4 → Q (.inr E_IB) (S0, G) := fun e => by rw [← hQ]; exact wAns.no q e (by decide) rfl
  refine x_aload_n d_F_worth_0 rfl rfl ?_
  refine x_iload d_F_worth_1 rfl ?_
  refine x_nV d_F_worth_3 e_F_worth_F_needFireOrNone rfl rfl (Nat.le_of_ble_eq_true rfl) (Nat.le_of_ble_eq_true rfl) rfl rfl rfl rfl (Nat.le_of_ble_eq_true rfl) (n_fire r f) (fun q1 => no1 (by rw [← hC]; unfold c_woR; simp only [f_wi0, f_co0]; rw [if_pos (by omega)])) (fun q1 => ?_)
  refine x_iload d_F_worth_6 rfl ?_
  refine x_nS d_F_worth_8 e_F_worth_F_needRowNumber rfl rfl (Nat.le_of_ble_eq_true rfl) (Nat.le_of_ble_eq_true rfl) rfl rfl (Nat.le_of_ble_eq_true rfl) (n_rowNumber _ row) (fun q2 => no1 (by rw [← hC]; unfold c_woR; simp only [f_wi0, f_co0]; rw [if_pos (by omega)])) (fun q2 => ?_)
  refine x_iload_n d_F_worth_11 rfl rfl ?_
  refine x_iload_n d_F_worth_12 rfl rfl ?_
  refine x_iload_n d_F_worth_13 rfl rfl ?_
  refine x_nS d_F_worth_14 e_F_worth_F_needCourse rfl rfl (Nat.le_of_ble_eq_true rfl) (Nat.le_of_ble_eq_true rfl) rfl rfl (Nat.le_of_ble_eq_true rfl) (n_course _ a b k) (fun q3 => no2 (by rw [← hC]; unfold c_woR; simp only [f_wi0, f_co0]; rw [if_neg (by omega), if_pos (by omega)])) (fun q3 => ?_)
  refine x_iload d_F_worth_17 rfl ?_
  refine x_nS d_F_worth_19 e_F_worth_F_needMinute rfl rfl (Nat.le_of_ble_eq_true rfl) (Nat.le_of_ble_eq_true rfl) rfl rfl (Nat.le_of_ble_eq_true rfl) (n_minute _ y) (fun q4 => no2 (by rw [← hC]; unfold c_woR; simp only [f_wi0, f_co0]; rw [if_neg (by omega), if_pos (by omega)])) (fun q4 => ?_)
  obtain ⟨y, rfl⟩ : ∃ n : Nat, y = n := ⟨y.toNat, by omega⟩
  obtain ⟨x, rfl⟩ : ∃ n : Nat, row = n := ⟨row.toNat, by omega⟩
  have hx : x < 4 := by omega
  obtain ⟨rx1, rx2, rx3⟩ := rr.2.1 x hx
  have rb := rr.1 x hx
  have eC : C = if ρ.1 x = -1 then 3 else if ρ.2.1 x ≤ y then 4 else 0 := by rw [← hC]; unfold c_woR; simp only [f_wi0, f_co0, Int.toNat_natCast]; rw [if_neg (by omega), if_neg (by omega)]
  refine x_aload_n d_F_worth_22 rfl rfl ?_
  refine x_iload d_F_worth_23 rfl ?_
  refine x_iload d_F_worth_25 rfl ?_
  refine x_iconst (1) d_F_worth_27 rfl ⟨by decide, by decide⟩ ?_
  refine x_iaddN d_F_worth_28 (by omega) (by omega) ?_
  refine x_nV2 d_F_worth_29 e_F_worth_F_needPlaces rfl rfl (Nat.le_of_ble_eq_true rfl) (Nat.le_of_ble_eq_true rfl) rfl rfl rfl rfl (Nat.le_of_ble_eq_true rfl) (n_places x hx ((y : Int) + 1)) (fun p1 => no3 (by rw [eC, if_pos (by rw [rx1] at p1; exact Decidable.byContradiction (fun z => p1 (decide_eq_true z)))])) (fun p1 p2 => no4 (by rw [rx1] at p1; rw [eC, if_neg (of_decide_eq_true p1), if_pos (by omega)])) (fun p1 p2 => ?_)
  have p1 : ρ.1 x ≠ -1 := by rw [rx1] at p1; exact of_decide_eq_true p1
  have eC : C = 0 := by rw [eC, if_neg p1, if_neg (by omega)]
  have eV : v_w h (rS ρ x) (f_sh h (a, b, k, f)) y = V := by rw [← hV]; unfold v_woR; rw [hC, if_pos eC]; simp only [Int.toNat_natCast]
  refine x_aload_n d_F_worth_32 rfl rfl ?_
  refine x_getF (kf := 2) d_F_worth_33 rfl rfl rfl in_F f_F_30 ?_
  refine x_iload_n d_F_worth_36 rfl rfl ?_
  refine x_iload_n d_F_worth_37 rfl rfl ?_
  refine x_iload_n d_F_worth_38 rfl rfl ?_
  refine x_iload d_F_worth_39 rfl ?_
  refine x_VQ d_F_worth_41 e_F_worth_Sm_follow ⟨rfl, rfl, Nat.le_of_ble_eq_true rfl, Nat.le_of_ble_eq_true rfl⟩ rfl rfl rfl rfl (Nat.le_of_ble_eq_true rfl) (c_follow hh r fk (a, b, k, f) q1) (fun v τ hv => ?_)
  obtain ⟨rfl, G1, rfl, f1, f2, f3, f4⟩ := hv
  show x_A y_F_worth 44 [some oFa, some (xI a), some (xI b), some (xI k), some (xI f), some (xI (y : Int)), some (xI (x : Int))] [] (S0, G1) _ _ Q
  have z1 : cQ h G1 := cQ.followed ⟨r, fk, ft⟩ f1 f2 f3 f4
  have el : G1 ro_lengths = G ro_lengths := f1 _ (by decide)
  refine x_aload_n d_F_worth_44 rfl rfl ?_
  refine x_getF (kf := 3) d_F_worth_45 rfl rfl rfl in_F f_F_39 ?_
  refine x_aload_n d_F_worth_48 rfl rfl ?_
  refine x_getF (kf := 8) d_F_worth_49 rfl rfl rfl in_F f_F_76 ?_
  refine x_iload d_F_worth_52 rfl ?_
  refine x_iload d_F_worth_54 rfl ?_
  refine x_VQ d_F_worth_56 e_F_worth_Es_worthOf ⟨rfl, rfl, Nat.le_of_ble_eq_true rfl, Nat.le_of_ble_eq_true rfl⟩ rfl rfl rfl rfl (Nat.le_of_ble_eq_true rfl) (c_worthOf hh z1.1 x y hx (by rw [el, rx3]; omega) (by rw [el, rx3]; omega) (by omega)) (fun v τ hv => ?_)
  obtain ⟨rfl, W, rfl, hW⟩ := hv
  have eW := v_w_is hW
  rw [v_w_cg hh (S' := rS ρ x) (sh' := f_sh h (a, b, k, f)) (fun n hn => by
    unfold cS rS
    rw [f1 ro_cells (by decide), rr.2.2 (30 * x + n / 16) (by omega)]) (fun m p hm hp => f_sh_c f2 m p (by omega) (by omega)), eV] at eW
  show x_A y_F_worth 59 [some oFa, some (xI a), some (xI b), some (xI k), some (xI f), some (xI (y : Int)), some (xI (x : Int))] [xI W] (S0, G1) _ _ Q
  rw [eW]
  refine x_ireturn d_F_worth_59 rfl ?_ (Nat.le_of_ble_eq_true rfl) (Nat.le_of_ble_eq_true rfl)
  rw [← hQ]; exact wAns.ok bk f1.k z1 eC
def rwRow (ρ : RR) (row sort many : Int) : RR := if c_row row sort many = 0 then (fun x => if x = row.toNat then sort else ρ.1 x, fun x => if x = row.toNat then many else ρ.2.1 x, fun j => if 30 * row.toNat ≤ j ∧ j < 30 * row.toNat + 30 then 0 else ρ.2.2 j) else ρ
theorem w_row (q : cF h G) (rr : cRw ρ G) (row sort many : Int) : x_M y_F_row [oFa, xI row, xI sort, xI many] (S0, G) (wRow h (rwRow ρ row sort many) G eNA (c_row row sort many) none) := by
  refine x_of 0 rfl (Nat.le_of_ble_eq_true rfl) ?_
  show x_A y_F_row 0 [some oFa, some (xI row), some (xI sort), some (xI many)] [] (S0, G) 0 0 _
  generalize hR : rwRow ρ row sort many = ρ'
  generalize hC : c_row row sort many = C
  generalize hQ : wRow h ρ' G eNA C none = Q
  have eR : C ≠ 0 → ρ' = ρ := fun z => by rw [← hR]; unfold rwRow; rw [hC, if_neg z]
  have no1 : C = 1 → Q (.inr E_NS) (S0, G) := fun e => by rw [← hQ]; exact wRow.no q rr (eR (by omega)) e (by decide) rfl
  have no2 : C = 2 → Q (.inr E_IA) (S0, G) := fun e => by rw [← hQ]; exact wRow.no q rr (eR (by omega)) e (by decide) rfl
  refine x_iload_n d_F_row_0 rfl rfl ?_
  refine x_nS d_F_row_1 e_F_row_F_needRowNumber rfl rfl (Nat.le_of_ble_eq_true rfl) (Nat.le_of_ble_eq_true rfl) rfl rfl (Nat.le_of_ble_eq_true rfl) (n_rowNumber _ row) (fun q1 => no1 (by rw [← hC]; unfold c_row; simp only [f_wi0]; rw [if_pos (by omega)])) (fun q1 => ?_)
  refine x_iload_n d_F_row_4 rfl rfl ?_
  refine x_iconst (0) d_F_row_5 rfl ⟨by decide, by decide⟩ ?_
  refine x_iconst (3) d_F_row_6 rfl ⟨by decide, by decide⟩ ?_
  refine x_nS d_F_row_7 e_F_row_F_needWithin rfl rfl (Nat.le_of_ble_eq_true rfl) (Nat.le_of_ble_eq_true rfl) rfl rfl (Nat.le_of_ble_eq_true rfl) (n_within _ sort 0 3) (fun q2 => no2 (by rw [← hC]; unfold c_row; simp only [f_wi0]; rw [if_neg (by omega), if_pos (by omega)])) (fun q2 => ?_)
  refine x_iload_n d_F_row_10 rfl rfl ?_
  refine x_iconst (0) d_F_row_11 rfl ⟨by decide, by decide⟩ ?_
  refine x_bipush (30) d_F_row_12 rfl ⟨by decide, by decide⟩ ?_
  refine x_nS d_F_row_14 e_F_row_F_needWithin rfl rfl (Nat.le_of_ble_eq_true rfl) (Nat.le_of_ble_eq_true rfl) rfl rfl (Nat.le_of_ble_eq_true rfl) (n_within _ many 0 30) (fun q3 => no2 (by rw [← hC]; unfold c_row; simp only [f_wi0]; rw [if_neg (by omega), if_pos (by omega)])) (fun q3 => ?_)
  have eC : C = 0 := by rw [← hC]; unfold c_row; simp only [f_wi0]; rw [if_neg (by omega), if_neg (by omega)]
  obtain ⟨x, rfl⟩ : ∃ n : Nat, row = n := ⟨row.toNat, by omega⟩
  have hx : x < 4 := by omega
  rw [show rwRow ρ (x : Int) sort many = (fun z => if z = x then sort else ρ.1 z, fun z => if z = x then many else ρ.2.1 z, fun j => if 30 * x ≤ j ∧ j < 30 * x + 30 then 0 else ρ.2.2 j) by unfold rwRow; rw [hC, if_pos eC]; simp only [Int.toNat_natCast]] at hR
  refine x_aload_n d_F_row_17 rfl rfl ?_
  refine x_getF (kf := 8) d_F_row_18 rfl rfl rfl in_F f_F_76 ?_
  refine x_iload_n d_F_row_21 rfl rfl ?_
  refine x_iload_n d_F_row_22 rfl rfl ?_
  refine x_iload_n d_F_row_23 rfl rfl ?_
  refine x_VQ d_F_row_24 e_F_row_Ro_start ⟨rfl, rfl, Nat.le_of_ble_eq_true rfl, Nat.le_of_ble_eq_true rfl⟩ rfl rfl rfl rfl (Nat.le_of_ble_eq_true rfl) (c_start x sort many hx q3) (fun v τ hv => ?_)
  obtain ⟨rfl, G1, rfl, g1, g2, g3, g4, g5⟩ := hv
  show x_A y_F_row 27 [some oFa, some (xI (x : Int)), some (xI sort), some (xI many)] [] (S0, G1) _ _ Q
  refine x_return d_F_row_27 rfl ?_ (Nat.le_of_ble_eq_true rfl) (Nat.le_of_ble_eq_true rfl)
  rw [← hQ]
  have g6 : ∀ i, (i < 59 ∨ 63 ≤ i) → G1 i = G i := fun i hi => g1 i (by show i ≠ 59; omega) (by show i ≠ 60; omega) (by show i ≠ 61; omega) (by show i ≠ 62; omega)
  refine ⟨G1, rfl, fun i hi => g6 i (by omega), ⟨q.1.off (fun i hi => g6 i (by omega)), q.2.b (g6 54 (by decide))⟩, ?_, Or.inl ⟨eC, rfl⟩⟩
  rw [← hR]
  refine ⟨fun z hz => ?_, fun z hz => ?_, fun j hj => ?_⟩
  · have := rr.1 z hz
    show -1 ≤ (if z = x then sort else ρ.1 z) ∧ (if z = x then sort else ρ.1 z) ≤ 3 ∧ 0 ≤ (if z = x then many else ρ.2.1 z) ∧ (if z = x then many else ρ.2.1 z) ≤ 30
    by_cases e : z = x
    · simp only [if_pos e]; omega
    · simp only [if_neg e]; omega
  · have := rr.2.1 z hz
    show xb (G1 o_Ro 3) z = decide ((if z = x then sort else ρ.1 z) ≠ -1) ∧ ((if z = x then sort else ρ.1 z) ≠ -1 → G1 ro_sorts z = if z = x then sort else ρ.1 z) ∧ G1 ro_lengths z = if z = x then many else ρ.2.1 z
    rw [g2, g3, g4, xb_or, xb_one (by omega) (by omega)]
    by_cases e : z = x
    · simp only [if_pos e, decide_eq_true e, Bool.or_true]
      refine ⟨(decide_eq_true (by omega)).symm, ?_, ?_⟩ <;> simp
    · simp only [if_neg e, decide_eq_false e, Bool.or_false]
      exact this
  · show G1 ro_cells j = if 30 * x ≤ j ∧ j < 30 * x + 30 then 0 else ρ.2.2 j
    rw [g5]
    split
    · rfl
    · exact rr.2.2 j hj
def c_wrR (ρ : RR) (row place : Int) : Int := if f_wi row 0 3 = 0 then 1 else if ρ.1 row.toNat = -1 then 2 else if f_wi place 0 (ρ.2.1 row.toNat - 1) = 0 then 3 else 0
def rwWr (ρ : RR) (row place v : Int) : RR := if c_wrR ρ row place = 0 then (ρ.1, ρ.2.1, fun j => if j = 30 * row.toNat + place.toNat then f_cutTo (ρ.1 row.toNat) v else ρ.2.2 j) else ρ
def v_wrR (ρ : RR) (row place v : Int) : Int := if c_wrR ρ row place = 0 then f_cutTo (ρ.1 row.toNat) v else 0
theorem w_write (q : cF h G) (rr : cRw ρ G) (row place v : Int) : x_M y_F_write [oFa, xI row, xI place, xL v] (S0, G) (wRow h (rwWr ρ row place v) G eNSB (c_wrR ρ row place) (some (xL (v_wrR ρ row place v)))) := by
  refine x_of 0 rfl (Nat.le_of_ble_eq_true rfl) ?_
  show x_A y_F_write 0 [some oFa, some (xI row), some (xI place), some (xL v), none] [] (S0, G) 0 0 _
  generalize hR : rwWr ρ row place v = ρ'
  generalize hV : v_wrR ρ row place v = V
  generalize hC : c_wrR ρ row place = C
  generalize hQ : wRow h ρ' G eNSB C (some (xL V)) = Q
  have eR : C ≠ 0 → ρ' = ρ := fun z => by rw [← hR]; unfold rwWr; rw [hC, if_neg z]
  have no1 : C = 1 → Q (.inr E_NS) (S0, G) := fun e => by rw [← hQ]; exact wRow.no q rr (eR (by omega)) e (by decide) rfl
  have no2 : C = 2 → Q (.inr E_IS) (S0, G) := fun e => by rw [← hQ]; exact wRow.no q rr (eR (by omega)) e (by decide) rfl
  have no3 : C = 3 → Q (.inr E_IB) (S0, G) := fun e => by rw [← hQ]; exact wRow.no q rr (eR (by omega)) e (by decide) rfl
  refine x_iload_n d_F_write_0 rfl rfl ?_
  refine x_nS d_F_write_1 e_F_write_F_needRowNumber rfl rfl (Nat.le_of_ble_eq_true rfl) (Nat.le_of_ble_eq_true rfl) rfl rfl (Nat.le_of_ble_eq_true rfl) (n_rowNumber _ row) (fun q1 => no1 (by rw [← hC]; unfold c_wrR; simp only [f_wi0]; rw [if_pos (by omega)])) (fun q1 => ?_)
  obtain ⟨x, rfl⟩ : ∃ n : Nat, row = n := ⟨row.toNat, by omega⟩
  have hx : x < 4 := by omega
  obtain ⟨rx1, rx2, rx3⟩ := rr.2.1 x hx
  have rb := rr.1 x hx
  have eC : C = if ρ.1 x = -1 then 2 else if ¬ (0 ≤ place ∧ place ≤ ρ.2.1 x - 1) then 3 else 0 := by rw [← hC]; unfold c_wrR; simp only [f_wi0, Int.toNat_natCast]; rw [if_neg (by omega)]
  refine x_aload_n d_F_write_4 rfl rfl ?_
  refine x_iload_n d_F_write_5 rfl rfl ?_
  refine x_iconst (0) d_F_write_6 rfl ⟨by decide, by decide⟩ ?_
  refine x_nV2 d_F_write_7 e_F_write_F_needPlaces rfl rfl (Nat.le_of_ble_eq_true rfl) (Nat.le_of_ble_eq_true rfl) rfl rfl rfl rfl (Nat.le_of_ble_eq_true rfl) (n_places x hx 0) (fun p1 => no2 (by rw [eC, if_pos (by rw [rx1] at p1; exact Decidable.byContradiction (fun z => p1 (decide_eq_true z)))])) (fun p1 p2 => (absurd (by rw [rx3]; omega) p2)) (fun p1 p2 => ?_)
  have p1 : ρ.1 x ≠ -1 := by rw [rx1] at p1; exact of_decide_eq_true p1
  have thr : ¬ (0 ≤ place ∧ place ≤ ρ.2.1 x - 1) → x_A y_F_write 26 [some oFa, some (xI (x : Int)), some (xI place), some (xL v), none] [] (S0, G) 3 18 Q := by
    intro z
    refine x_throwW rfl tk_286 rfl d_F_write_26 d_F_write_29 d_F_write_30 d_F_write_33 d_F_write_36 (Nat.le_of_ble_eq_true rfl) (Nat.le_of_ble_eq_true rfl) (Nat.le_of_ble_eq_true rfl) (Nat.le_of_ble_eq_true rfl) ?_
    exact no3 (by rw [eC, if_neg p1, if_pos z])
  refine x_iload_n d_F_write_10 rfl rfl ?_
  refine x_if_lt (26) d_F_write_11 (by decide) (fun g1 => ?_) (fun g1 => ?_)
  · exact thr (by omega)
  · refine x_iload_n d_F_write_14 rfl rfl ?_
    refine x_aload_n d_F_write_15 rfl rfl ?_
    refine x_getF (kf := 8) d_F_write_16 rfl rfl rfl in_F f_F_76 ?_
    refine x_iload_n d_F_write_19 rfl rfl ?_
    refine x_V1 d_F_write_20 e_F_write_Ro_lengthOf ⟨rfl, rfl, Nat.le_of_ble_eq_true rfl, Nat.le_of_ble_eq_true rfl⟩ rfl rfl rfl rfl (Nat.le_of_ble_eq_true rfl) (c_lengthOf x hx) ?_
    rw [rx3]
    refine x_icmp_lt (37) d_F_write_23 (by decide) (fun g2 => ?_) (fun g2 => ?_)
    · obtain ⟨n, rfl⟩ : ∃ n : Nat, place = n := ⟨place.toNat, by omega⟩
      have eC : C = 0 := by rw [eC, if_neg p1, if_neg (by omega)]
      have eV : f_cutTo (ρ.1 x) v = V := by rw [← hV]; unfold v_wrR; rw [hC, if_pos eC]; simp only [Int.toNat_natCast]
      rw [show rwWr ρ (x : Int) (n : Int) v = (ρ.1, ρ.2.1, fun j => if j = 30 * x + n then f_cutTo (ρ.1 x) v else ρ.2.2 j) by unfold rwWr; rw [hC, if_pos eC]; simp only [Int.toNat_natCast]] at hR
      refine x_aload_n d_F_write_37 rfl rfl ?_
      refine x_getF (kf := 8) d_F_write_38 rfl rfl rfl in_F f_F_76 ?_
      refine x_iload_n d_F_write_41 rfl rfl ?_
      refine x_iload_n d_F_write_42 rfl rfl ?_
      refine x_lload_n d_F_write_43 rfl rfl ?_
      refine x_V1 d_F_write_44 e_F_write_Ro_put ⟨rfl, rfl, Nat.le_of_ble_eq_true rfl, Nat.le_of_ble_eq_true rfl⟩ rfl rfl rfl rfl (Nat.le_of_ble_eq_true rfl) (c_rput x n v hx (by rw [rx3]; omega) (by rw [rx3]; omega) (by rw [rx2 p1]; omega)) ?_
      rw [rx2 p1, eV]
      refine x_lreturn d_F_write_47 rfl ?_ (Nat.le_of_ble_eq_true rfl) (Nat.le_of_ble_eq_true rfl)
      rw [← hQ]
      refine ⟨_, rfl, fun i hi => up_cell (by show i ≠ 60; omega), ⟨q.1.off (fun i hi => up_cell (by show i ≠ 60; omega)), q.2.b (up_cell (by decide))⟩, ?_, Or.inl ⟨eC, rfl⟩⟩
      rw [← hR]
      refine ⟨rr.1, fun z hz => ?_, fun j hj => ?_⟩
      · rw [up_cell (by decide), up_cell (by decide), up_cell (by decide)]
        exact rr.2.1 z hz
      · show up G ro_cells (30 * x + n) V ro_cells j = if j = 30 * x + n then f_cutTo (ρ.1 x) v else ρ.2.2 j
        by_cases e : j = 30 * x + n
        · rw [if_pos e, e, up_same, eV]
        · rw [if_neg e, up_ne e]
          exact rr.2.2 j hj
    · exact thr (by omega)
noncomputable def rwLay (h : HH) (ρ : RR) (a b k f y row : Int) : RR := if c_woR h ρ a b k f y row = 0 then (ρ.1, ρ.2.1, fun j => if 30 * row.toNat ≤ j ∧ j ≤ 30 * row.toNat + y.toNat then f_cutTo (ρ.1 row.toNat) (sN (l_sd h a b k f y.toNat) (j - 30 * row.toNat) 16) else ρ.2.2 j) else ρ
def v_layR (h : HH) (ρ : RR) (a b k f y row : Int) : Int := if c_woR h ρ a b k f y row = 0 then y + 1 else 0
theorem w_lay (hh : Hwf h) (q : cF h G) (rr : cRw ρ G) (a b k f y row : Int) : x_M y_F_lay [oFa, xI a, xI b, xI k, xI f, xI y, xI row] (S0, G) (wRow h (rwLay h ρ a b k f y row) G eNASB (c_woR h ρ a b k f y row) (some (xI (v_layR h ρ a b k f y row)))) := by
  have bb := hh.1
  obtain ⟨⟨r, fk, ft⟩, bk⟩ := id q
  refine x_of 1 rfl (Nat.le_of_ble_eq_true rfl) ?_
  show x_A y_F_lay 0 [some oFa, some (xI a), some (xI b), some (xI k), some (xI f), some (xI y), some (xI row), none] [] (S0, G) 0 0 _
  generalize hR : rwLay h ρ a b k f y row = ρ'
  generalize hV : v_layR h ρ a b k f y row = V
  generalize hC : c_woR h ρ a b k f y row = C
  generalize hQ : wRow h ρ' G eNASB C (some (xI V)) = Q
  have eR : C ≠ 0 → ρ' = ρ := fun z => by rw [← hR]; unfold rwLay; rw [hC, if_neg z]
  have no1 : C = 1 → Q (.inr E_NS) (S0, G) := fun e => by rw [← hQ]; exact wRow.no q rr (eR (by omega)) e (by decide) rfl
  have no2 : C = 2 → Q (.inr E_IA) (S0, G) := fun e => by rw [← hQ]; exact wRow.no q rr (eR (by omega)) e (by decide) rfl
  have no3 : C = 3 → Q (.inr E_IS) (S0, G) := fun e => by rw [← hQ]; exact wRow.no q rr (eR (by omega)) e (by decide) rfl
  have no4 : C = 4 → Q (.inr E_IB) (S0, G) := fun e => by rw [← hQ]; exact wRow.no q rr (eR (by omega)) e (by decide) rfl
  refine x_aload_n d_F_lay_0 rfl rfl ?_
  refine x_iload d_F_lay_1 rfl ?_
  refine x_nV d_F_lay_3 e_F_lay_F_needFireOrNone rfl rfl (Nat.le_of_ble_eq_true rfl) (Nat.le_of_ble_eq_true rfl) rfl rfl rfl rfl (Nat.le_of_ble_eq_true rfl) (n_fire r f) (fun q1 => no1 (by rw [← hC]; unfold c_woR; simp only [f_wi0, f_co0]; rw [if_pos (by omega)])) (fun q1 => ?_)
  refine x_iload d_F_lay_6 rfl ?_
  refine x_nS d_F_lay_8 e_F_lay_F_needRowNumber rfl rfl (Nat.le_of_ble_eq_true rfl) (Nat.le_of_ble_eq_true rfl) rfl rfl (Nat.le_of_ble_eq_true rfl) (n_rowNumber _ row) (fun q2 => no1 (by rw [← hC]; unfold c_woR; simp only [f_wi0, f_co0]; rw [if_pos (by omega)])) (fun q2 => ?_)
  refine x_iload_n d_F_lay_11 rfl rfl ?_
  refine x_iload_n d_F_lay_12 rfl rfl ?_
  refine x_iload_n d_F_lay_13 rfl rfl ?_
  refine x_nS d_F_lay_14 e_F_lay_F_needCourse rfl rfl (Nat.le_of_ble_eq_true rfl) (Nat.le_of_ble_eq_true rfl) rfl rfl (Nat.le_of_ble_eq_true rfl) (n_course _ a b k) (fun q3 => no2 (by rw [← hC]; unfold c_woR; simp only [f_wi0, f_co0]; rw [if_neg (by omega), if_pos (by omega)])) (fun q3 => ?_)
  refine x_iload d_F_lay_17 rfl ?_
  refine x_nS d_F_lay_19 e_F_lay_F_needMinute rfl rfl (Nat.le_of_ble_eq_true rfl) (Nat.le_of_ble_eq_true rfl) rfl rfl (Nat.le_of_ble_eq_true rfl) (n_minute _ y) (fun q4 => no2 (by rw [← hC]; unfold c_woR; simp only [f_wi0, f_co0]; rw [if_neg (by omega), if_pos (by omega)])) (fun q4 => ?_)
  obtain ⟨y, rfl⟩ : ∃ n : Nat, y = n := ⟨y.toNat, by omega⟩
  obtain ⟨x, rfl⟩ : ∃ n : Nat, row = n := ⟨row.toNat, by omega⟩
  have hx : x < 4 := by omega
  obtain ⟨rx1, rx2, rx3⟩ := rr.2.1 x hx
  have rb := rr.1 x hx
  have eC : C = if ρ.1 x = -1 then 3 else if ρ.2.1 x ≤ y then 4 else 0 := by rw [← hC]; unfold c_woR; simp only [f_wi0, f_co0, Int.toNat_natCast]; rw [if_neg (by omega), if_neg (by omega)]
  refine x_aload_n d_F_lay_22 rfl rfl ?_
  refine x_iload d_F_lay_23 rfl ?_
  refine x_iload d_F_lay_25 rfl ?_
  refine x_iconst (1) d_F_lay_27 rfl ⟨by decide, by decide⟩ ?_
  refine x_iaddN d_F_lay_28 (by omega) (by omega) ?_
  refine x_nV2 d_F_lay_29 e_F_lay_F_needPlaces rfl rfl (Nat.le_of_ble_eq_true rfl) (Nat.le_of_ble_eq_true rfl) rfl rfl rfl rfl (Nat.le_of_ble_eq_true rfl) (n_places x hx ((y : Int) + 1)) (fun p1 => no3 (by rw [eC, if_pos (by rw [rx1] at p1; exact Decidable.byContradiction (fun z => p1 (decide_eq_true z)))])) (fun p1 p2 => no4 (by rw [rx1] at p1; rw [eC, if_neg (of_decide_eq_true p1), if_pos (by omega)])) (fun p1 p2 => ?_)
  have p1 : ρ.1 x ≠ -1 := by rw [rx1] at p1; exact of_decide_eq_true p1
  have eC : C = 0 := by rw [eC, if_neg p1, if_neg (by omega)]
  have eV : (y : Int) + 1 = V := by rw [← hV]; unfold v_layR; rw [hC, if_pos eC]
  obtain ⟨wt, ew, hw⟩ := f_wt hh
  rw [show rwLay h ρ a b k f (y : Int) (x : Int) = (ρ.1, ρ.2.1, fun j => if 30 * x ≤ j ∧ j ≤ 30 * x + y then f_cutTo (ρ.1 x) (sN (l_sd h a b k f y) (j - 30 * x) 16) else ρ.2.2 j) by unfold rwLay; rw [hC, if_pos eC]; simp only [Int.toNat_natCast]] at hR
  refine x_aload_n d_F_lay_32 rfl rfl ?_
  refine x_getF (kf := 2) d_F_lay_33 rfl rfl rfl in_F f_F_30 ?_
  refine x_iload_n d_F_lay_36 rfl rfl ?_
  refine x_iload_n d_F_lay_37 rfl rfl ?_
  refine x_iload_n d_F_lay_38 rfl rfl ?_
  refine x_iload d_F_lay_39 rfl ?_
  refine x_VQ d_F_lay_41 e_F_lay_Sm_follow ⟨rfl, rfl, Nat.le_of_ble_eq_true rfl, Nat.le_of_ble_eq_true rfl⟩ rfl rfl rfl rfl (Nat.le_of_ble_eq_true rfl) (c_follow hh r fk (a, b, k, f) q1) (fun v τ hv => ?_)
  obtain ⟨rfl, G1, rfl, f1, f2, f3, f4⟩ := hv
  show x_A y_F_lay 44 [some oFa, some (xI a), some (xI b), some (xI k), some (xI f), some (xI (y : Int)), some (xI (x : Int)), none] [] (S0, G1) _ _ Q
  have z1 : cQ h G1 := cQ.followed ⟨r, fk, ft⟩ f1 f2 f3 f4
  refine x_aload_n d_F_lay_44 rfl rfl ?_
  refine x_getF (kf := 3) d_F_lay_45 rfl rfl rfl in_F f_F_39 ?_
  refine x_iload d_F_lay_48 rfl ?_
  refine x_aload_n d_F_lay_50 rfl rfl ?_
  refine x_getF (kf := 1) d_F_lay_51 rfl rfl rfl in_F f_F_21 ?_
  refine x_V1 d_F_lay_54 e_F_lay_Ho_walkTimes ⟨rfl, rfl, Nat.le_of_ble_eq_true rfl, Nat.le_of_ble_eq_true rfl⟩ rfl rfl rfl rfl (Nat.le_of_ble_eq_true rfl) (c_walkTimes hh z1.1) ?_
  rw [ew]
  refine x_aload_n d_F_lay_57 rfl rfl ?_
  refine x_getF (kf := 1) d_F_lay_58 rfl rfl rfl in_F f_F_21 ?_
  refine x_V1 d_F_lay_61 e_F_lay_Ho_madeDoors ⟨rfl, rfl, Nat.le_of_ble_eq_true rfl, Nat.le_of_ble_eq_true rfl⟩ rfl rfl rfl rfl (Nat.le_of_ble_eq_true rfl) (c_madeDoors hh z1.1) ?_
  refine x_VQ d_F_lay_64 e_F_lay_Es_most ⟨rfl, rfl, Nat.le_of_ble_eq_true rfl, Nat.le_of_ble_eq_true rfl⟩ rfl rfl rfl rfl (Nat.le_of_ble_eq_true rfl) (c_emost hh z1.1 (f_sh h (a, b, k, f)) (f_sh_c f2) y wt (f_made h (h.2 6)) (by omega) hw) (fun v τ hv => ?_)
  obtain ⟨G2, rfl, rfl, g1, g2, g3, g4⟩ := hv
  have z2 := z1.most g1
  have ek : kF G G2 := f1.k.tr g1.k
  have esd : l_sd h a b k f y = f_side (cutF h (f_sh h (a, b, k, f)) y wt (f_made h (h.2 6))) := by unfold l_sd; rw [ew, Int.toNat_natCast]
  generalize hsd : f_side (cutF h (f_sh h (a, b, k, f)) y wt (f_made h (h.2 6))) = sd' at *
  generalize mv (cutF h (f_sh h (a, b, k, f)) y wt (f_made h (h.2 6))) = mw at *
  show x_A y_F_lay 67 [some oFa, some (xI a), some (xI b), some (xI k), some (xI f), some (xI (y : Int)), some (xI (x : Int)), none] [xI mw] (S0, G2) 8 48 Q
  have sa : ∀ m, m ≤ 20 → sA sd' m (h.2 0) = sN sd' m 16 := fun m hm => by
    have := sA_sN hh (f_sh h (a, b, k, f)) y wt (f_made h (h.2 6)) (by omega) (by rw [hsd]; exact g3) hm
    rw [hsd] at this
    exact this
  refine x_pop d_F_lay_67 rfl ?_
  refine x_iconst (0) d_F_lay_68 rfl ⟨by decide, by decide⟩ ?_
  refine x_istore d_F_lay_69 (by decide) ?_
  dsimp only [x_st1, x_st2, x_kill, List.set, List.getElem?_cons_zero, List.getElem?_cons_succ]
  have all : ∀ G', (∀ i, i ≠ ro_cells → G' i = G2 i) → (∀ j, G' ro_cells j = if 30 * x ≤ j ∧ j < 30 * x + 0 then f_cutTo (ρ.1 x) (sN sd' (j - 30 * x) 16) else G2 ro_cells j) → x_A y_F_lay 71 [some oFa, some (xI a), some (xI b), some (xI k), some (xI f), some (xI (y : Int)), some (xI (x : Int)), some (xI ((0 : Nat) : Int))] [] (S0, G') 8 48 Q := by
    refine x_up_to (P := fun m => ∀ G', (∀ i, i ≠ ro_cells → G' i = G2 i) → (∀ j, G' ro_cells j = if 30 * x ≤ j ∧ j < 30 * x + m then f_cutTo (ρ.1 x) (sN sd' (j - 30 * x) 16) else G2 ro_cells j) → x_A y_F_lay 71 [some oFa, some (xI a), some (xI b), some (xI k), some (xI f), some (xI (y : Int)), some (xI (x : Int)), some (xI (m : Int))] [] (S0, G') 8 48 Q) 0 (y + 1) (Nat.zero_le _) ?_ (fun m _ hm k1 => ?_)
    · intro G3 e1 e2
      refine x_iload d_F_lay_71 rfl ?_
      refine x_iload d_F_lay_73 rfl ?_
      refine x_icmp_gt (106) d_F_lay_75 (by decide) (fun g => ?_) (fun g => ?_)
      · refine x_iload d_F_lay_106 rfl ?_
        refine x_iconst (1) d_F_lay_108 rfl ⟨by decide, by decide⟩ ?_
        refine x_iaddN d_F_lay_109 (by omega) (by omega) ?_
        rw [eV]
        refine x_ireturn d_F_lay_110 rfl ?_ (Nat.le_of_ble_eq_true rfl) (Nat.le_of_ble_eq_true rfl)
        rw [← hQ]
        refine ⟨G3, rfl, fun i hi => (e1 i (by show i ≠ 60; omega)).trans (ek i (by omega)), ⟨z2.off (fun i hi => e1 i (by show i ≠ 60; omega)), (bk.k ek).b (e1 54 (by decide))⟩, ?_, Or.inl ⟨eC, rfl⟩⟩
        rw [← hR]
        refine ⟨rr.1, fun z hz => ?_, fun j hj => ?_⟩
        · rw [e1 _ (by decide), e1 _ (by decide), e1 _ (by decide), ek o_Ro (by decide), ek ro_sorts (by decide), ek ro_lengths (by decide)]
          exact rr.2.1 z hz
        · show G3 ro_cells j = if 30 * x ≤ j ∧ j ≤ 30 * x + y then f_cutTo (ρ.1 x) (sN (l_sd h a b k f y) (j - 30 * x) 16) else ρ.2.2 j
          rw [e2 j, esd, ek ro_cells (by decide), rr.2.2 j hj]
          by_cases e : 30 * x ≤ j ∧ j ≤ 30 * x + y
          · rw [if_pos e, if_pos (by omega)]
          · rw [if_neg e, if_neg (by omega)]
      · omega
    · intro G3 e1 e2
      have z3 : cQ h G3 := z2.off (fun i hi => e1 i (by show i ≠ 60; omega))
      have es : G3 ro_sorts x = ρ.1 x := by rw [e1 _ (by decide), ek ro_sorts (by decide)]; exact rx2 p1
      have el : G3 ro_lengths x = ρ.2.1 x := by rw [e1 _ (by decide), ek ro_lengths (by decide)]; exact rx3
      refine x_iload d_F_lay_71 rfl ?_
      refine x_iload d_F_lay_73 rfl ?_
      refine x_icmp_gt (106) d_F_lay_75 (by decide) (fun g => ?_) (fun g => ?_)
      · omega
      · refine x_aload_n d_F_lay_78 rfl rfl ?_
        refine x_getF (kf := 8) d_F_lay_79 rfl rfl rfl in_F f_F_76 ?_
        refine x_iload d_F_lay_82 rfl ?_
        refine x_iload d_F_lay_84 rfl ?_
        refine x_aload_n d_F_lay_86 rfl rfl ?_
        refine x_getF (kf := 3) d_F_lay_87 rfl rfl rfl in_F f_F_39 ?_
        refine x_iload d_F_lay_90 rfl ?_
        refine x_V1 d_F_lay_92 e_F_lay_Es_sideAt ⟨rfl, rfl, Nat.le_of_ble_eq_true rfl, Nat.le_of_ble_eq_true rfl⟩ rfl rfl rfl rfl (Nat.le_of_ble_eq_true rfl) (c_sideAt hh z3.1 sd' m (by omega) (fun p hp => by rw [e1 ne_seen (by decide)]; exact g4 m p (by omega) hp)) ?_
        rw [sa m (by omega)]
        refine x_i2l d_F_lay_95 ?_
        refine x_V1 d_F_lay_96 e_F_lay_Ro_put ⟨rfl, rfl, Nat.le_of_ble_eq_true rfl, Nat.le_of_ble_eq_true rfl⟩ rfl rfl rfl rfl (Nat.le_of_ble_eq_true rfl) (c_rput x m (sN sd' m 16) hx (by rw [el]; omega) (by rw [el]; omega) (by rw [es]; omega)) ?_
        rw [es]
        refine x_pop2 d_F_lay_99 rfl ?_
        refine x_iincN d_F_lay_100 rfl (by decide) (by omega) (by omega) ?_
        dsimp only [x_st1, x_st2, x_kill, List.set, List.getElem?_cons_zero, List.getElem?_cons_succ]
        refine x_goto (71) d_F_lay_103 (by decide) ?_
        exact k1 _ (fun i hi => (up_cell hi).trans (e1 i hi)) (fun j => by
          by_cases e : j = 30 * x + m
          · rw [e, up_same, if_pos (by omega), show 30 * x + m - 30 * x = m by omega]
          · rw [up_ne e, e2 j]
            by_cases e3 : 30 * x ≤ j ∧ j < 30 * x + m
            · rw [if_pos e3, if_pos (by omega)]
            · rw [if_neg e3, if_neg (by omega)])
  exact all G2 (fun _ _ => rfl) (fun j => by rw [if_neg (by omega)])
end WRo
