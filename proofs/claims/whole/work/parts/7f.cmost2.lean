/-! the class: most, the side -/
theorem ind_bd (S : Nat → Bool) (a b : Nat) {c : Int} (hc : 0 ≤ c) : 0 ≤ ind S a b c ∧ ind S a b c ≤ c := by unfold ind; split <;> omega
theorem ind_no {S : Nat → Bool} {a : Nat} (h : S a = false) (b : Nat) (c : Int) : ind S a b c = 0 := by unfold ind; rw [h, if_neg (fun z => by cases z.1)]
/-- the source alone -/
theorem cutF_src {h : HH} (hh : Hwf h) (sh : Nat → Nat → Bool) (by' times : Nat) (set : Int) (hb : by' ≤ 20) : cutF h sh by' times set (fun n => decide (n = 336)) ≤ f_people h := by
  have b := hh.1
  have e : ∀ m, m < by' + 1 → kM h sh by' times set (fun n => decide (n = 336)) m = 0 := by
    intro m hm
    unfold kM
    rw [su_congr (g := fun _ => 0) (fun p hp => ?_), su_congr (f := kW h by' times (fun n => decide (n = 336)) m) (g := fun _ => 0) (fun w hw => ?_), su_zero, su_zero]
    · rfl
    · have bw := hh.2.2.1 w hw
      unfold kW
      rw [ind_no (decide_eq_false (by omega)), ind_no (decide_eq_false (by omega))]
      split <;> rfl
    · unfold kP
      rw [ind_no (decide_eq_false (by omega)), ind_no (decide_eq_false (by omega)), ind_no (decide_eq_false (by omega))]
      split <;> split <;> rfl
  unfold cutF f_people
  rw [su_congr e, su_zero, Int.add_zero]
  refine su_mono (fun g hg => ?_)
  have bg := hh.2.2.2.2.2.2.1 g hg
  unfold kG
  split
  · exact (ind_bd _ _ _ (by omega)).2
  · omega
theorem isMin_rho {F : (Nat → Bool) → Int} {V : Int} (a : isMin (fun S => F (fun n => S (rho n))) V) : isMin F V := by
  obtain ⟨⟨S, s1, s2⟩, s3⟩ := a
  refine ⟨⟨fun n => S (rho n), s1, s2⟩, fun T hT => ?_⟩
  have := s3 (fun n => T (rhoI n)) hT
  simp only [rhoI_inv] at this
  exact this
theorem isSide_rho {F : (Nat → Bool) → Int} {R : Nat → Bool} (hv : mv (fun S => F (fun n => S (rho n))) = mv F) (a : isSide (fun S => F (fun n => S (rho n))) R) : isSide F (fun n => R (rho n)) := by
  obtain ⟨s1, s2, s3⟩ := a
  refine ⟨s1, by rw [← hv]; exact s2, fun T hT e n hn => ?_⟩
  have := s3 (fun n => T (rhoI n)) hT (by simp only [rhoI_inv]; rw [hv]; exact e) (rho n) hn
  simp only [rhoI_inv] at this
  exact this
section CM
variable {h : HH} {G : Nat → Nat → Int}
def sd (b : Bool) : Int := if b = true then 1 else 0
/-- behind most: the answer, and the side in 'seen' -/
def mCM (F : (Nat → Bool) → Int) (G : Nat → Nat → Int) : Option XV → XM → Prop := fun v τ => ∃ G', τ = (S0, G') ∧ v = some (xI (mv F)) ∧ eFrame G G' ∧ isMin F (mv F) ∧ isSide F (f_side F) ∧ ∀ m p, m ≤ 20 → p < 8 → G' ne_seen (16 * m + 2 * p) = sd (f_side F (16 * m + p)) ∧ G' ne_seen (16 * m + 2 * p + 1) = sd (f_side F (16 * m + 8 + p))
theorem c_emost (hh : Hwf h) (r : fRep h G) (sh : Nat → Nat → Bool) (hsh : ∀ m p, m ≤ 20 → p < 8 → decide (h.1 9 0 0 < G sm_mixed (8 * m + p)) = sh m p) (by' times : Nat) (set : Int) (hb : by' ≤ 20) (ht : 1 ≤ times ∧ times ≤ 3) :
    x_M y_Es_most [oEs, xI (by' : Int), xI (times : Int), xI set] (S0, G) (fun r τ => ∃ v, r = .inl v ∧ mCM (cutF h sh by' times set) G v τ) := by
  have hp6 := f_people_bd hh
  refine x_of 0 rfl (Nat.le_of_ble_eq_true rfl) ?_
  show x_A y_Es_most 0 [some oEs, some (xI (by' : Int)), some (xI (times : Int)), some (xI set)] [] (S0, G) 0 0 _
  generalize hQ : (fun (r : XRes) (τ : XM) => ∃ v, r = .inl v ∧ mCM (cutF h sh by' times set) G v τ) = Q
  refine x_aload_n d_Es_most_0 rfl rfl ?_
  refine x_getF (kf := 2) d_Es_most_1 rfl rfl rfl in_Es f_Es_12 ?_
  refine x_VQ d_Es_most_4 e_Es_most_Ne_clear ⟨rfl, rfl, Nat.zero_le _, Nat.zero_le _⟩ rfl rfl rfl rfl (Nat.le_of_ble_eq_true rfl) (c_nclear) (fun v τ hv => ?_)
  obtain ⟨rfl, G1, rfl, f1, f2⟩ := hv
  show x_A y_Es_most 7 [some oEs, some (xI (by' : Int)), some (xI (times : Int)), some (xI set)] [] (S0, G1) 0 0 Q
  have j1 : jInv G 0 (fun _ => 0) G1 := ⟨N0, ⟨by show 0 ≤ 1200; omega, fun k hk => by simp only [N0] at hk; omega⟩, Nat.le_refl 0, f2, fun S => rfl, f1⟩
  refine x_aload_n d_Es_most_7 rfl rfl ?_
  refine x_iload_n d_Es_most_8 rfl rfl ?_
  refine x_VQ d_Es_most_9 e_Es_most_Es_joinRooms ⟨rfl, rfl, Nat.zero_le _, Nat.zero_le _⟩ rfl rfl rfl rfl (Nat.le_of_ble_eq_true rfl) (c_joinRooms hh r sh hsh by' hb j1) (fun v τ hv => ?_)
  obtain ⟨rfl, G2, rfl, j2⟩ := hv
  show x_A y_Es_most 12 [some oEs, some (xI (by' : Int)), some (xI (times : Int)), some (xI set)] [] (S0, G2) 0 0 Q
  refine x_aload_n d_Es_most_12 rfl rfl ?_
  refine x_iload_n d_Es_most_13 rfl rfl ?_
  refine x_iload_n d_Es_most_14 rfl rfl ?_
  refine x_VQ d_Es_most_15 e_Es_most_Es_joinWays ⟨rfl, rfl, Nat.zero_le _, Nat.zero_le _⟩ rfl rfl rfl rfl (Nat.le_of_ble_eq_true rfl) (c_joinWays hh r by' times hb ht j2) (fun v τ hv => ?_)
  obtain ⟨rfl, G3, rfl, j3⟩ := hv
  show x_A y_Es_most 18 [some oEs, some (xI (by' : Int)), some (xI (times : Int)), some (xI set)] [] (S0, G3) 0 0 Q
  refine x_aload_n d_Es_most_18 rfl rfl ?_
  refine x_iload_n d_Es_most_19 rfl rfl ?_
  refine x_iload_n d_Es_most_20 rfl rfl ?_
  refine x_VQ d_Es_most_21 e_Es_most_Es_joinExits ⟨rfl, rfl, Nat.zero_le _, Nat.zero_le _⟩ rfl rfl rfl rfl (Nat.le_of_ble_eq_true rfl) (c_joinExits hh r by' set hb j3) (fun v τ hv => ?_)
  obtain ⟨rfl, G4, rfl, j4⟩ := hv
  show x_A y_Es_most 24 [some oEs, some (xI (by' : Int)), some (xI (times : Int)), some (xI set)] [] (S0, G4) 0 0 Q
  refine x_aload_n d_Es_most_24 rfl rfl ?_
  refine x_iload_n d_Es_most_25 rfl rfl ?_
  refine x_VQ d_Es_most_26 e_Es_most_Es_joinGroups ⟨rfl, rfl, Nat.zero_le _, Nat.zero_le _⟩ rfl rfl rfl rfl (Nat.le_of_ble_eq_true rfl) (c_joinGroups hh r by' hb j4) (fun v τ hv => ?_)
  obtain ⟨rfl, G5, rfl, j5⟩ := hv
  show x_A y_Es_most 29 [some oEs, some (xI (by' : Int)), some (xI (times : Int)), some (xI set)] [] (S0, G5) 0 0 Q
  obtain ⟨N, w1, w2, w3, w4, w5⟩ := j5
  have w4' : ∀ S, cut N S = cutF h sh by' times set (fun n => S (rho n)) := fun S => by
    rw [w4 S, ← cutF_C h sh by' times set (fun n => S (rho n))]
    dsimp only
    omega
  have hB : ∃ S, nOut S ∧ cut N S ≤ 1000 := by
    refine ⟨fun n => decide (n = 336), ⟨rfl, rfl⟩, ?_⟩
    rw [w4']
    have e : (fun n => decide (rho n = 336)) = fun n => decide (n = 336) := by
      funext n
      by_cases q : n = 336
      · subst q; rfl
      · rw [decide_eq_false q, decide_eq_false (fun z => q (by have := congrArg rhoI z; rw [rhoI_inv] at this; exact this))]
    rw [e]
    have := cutF_src hh sh by' times set hb
    omega
  refine x_aload_n d_Es_most_29 rfl rfl ?_
  refine x_getF (kf := 2) d_Es_most_30 rfl rfl rfl in_Es f_Es_12 ?_
  refine x_VQ d_Es_most_33 e_Es_most_Ne_most ⟨rfl, rfl, Nat.zero_le _, Nat.zero_le _⟩ rfl rfl rfl rfl (Nat.le_of_ble_eq_true rfl) (c_nmost w1 (by omega) w3 hB) (fun v τ hv => ?_)
  obtain ⟨G6, L, V, rfl, rfl, e1, e2, e3, e4, e5, e6⟩ := hv
  show x_A y_Es_most 36 [some oEs, some (xI (by' : Int)), some (xI (times : Int)), some (xI set)] [xI V] (S0, G6) 0 0 Q
  refine x_ireturn d_Es_most_36 rfl ?_ (Nat.zero_le _) (Nat.zero_le _)
  rw [← hQ]
  have m1 : isMin (fun S => cutF h sh by' times set (fun n => S (rho n))) V := e3.cg w4'
  have m2 := isMin_rho m1
  have v1 := mv_eq m1
  have v2 := mv_eq m2
  have s1 := nR.side e2 w4' m1 ⟨rSeen G6, ⟨e4.1, e5⟩, e4.2.1⟩ e4
  have s2 := isSide_rho (F := cutF h sh by' times set) (by rw [v1, v2]) s1
  have s3 := f_side_eq s2
  have bit : ∀ n, n < 338 → G6 ne_seen n = sd (rSeen G6 n) := fun n hn => by
    unfold sd rSeen
    rcases e6 n hn with q | q
    · rw [q, decide_eq_false (fun z => by cases z.2)]; rfl
    · rw [q, decide_eq_true ⟨hn, rfl⟩]; rfl
  refine ⟨_, rfl, G6, rfl, by rw [v2], w5.trans e1, by rw [v2]; exact m2, by rw [s3]; exact s2, fun m p hm hp => ?_⟩
  rw [s3]
  dsimp only
  rw [rho_b (by omega) hp, rho_i (by omega) hp]
  exact ⟨bit _ (by omega), bit _ (by omega)⟩
end CM
/-! numbers by their bits -/
theorem xb_ext {s t : Int} (hs : x_r32 s) (ht : x_r32 t) (e : ∀ b, b < 32 → xb s b = xb t b) : s = t := by
  have : (Int32.ofInt s).toBitVec = (Int32.ofInt t).toBitVec := BitVec.eq_of_getLsbD_eq (fun i hi => e i hi)
  have h2 : Int32.ofInt s = Int32.ofInt t := Int32.toBitVec_inj.mp this
  rw [← i32_toInt_r hs, ← i32_toInt_r ht, h2]
theorem x_or_r (a b : Int) : x_r32 (x_or a b) := i32_rng _
theorem xb_one32 {k b : Nat} (hk : k < 31) (hb : b < 32) : xb (x_shl 1 k) b = decide (b = k) := by
  have key : ∀ (k : Fin 31) (b : Fin 32), xb (x_shl 1 (k : Nat)) b = decide ((b : Nat) = k) := by decide +kernel
  exact key ⟨k, hk⟩ ⟨b, hb⟩
/-- the side's number out of the first n pieces -/
def sA (R : Nat → Bool) (m : Nat) : Nat → Int
  | 0 => 0
  | p + 1 => if R (16 * m + 8 + p) = true then x_or (if R (16 * m + p) = true then x_or (sA R m p) (x_shl 1 p) else sA R m p) (x_shl 1 ((8 + p : Nat) : Int)) else (if R (16 * m + p) = true then x_or (sA R m p) (x_shl 1 p) else sA R m p)
theorem sA_bit (R : Nat → Bool) (m : Nat) {n : Nat} (hn : n ≤ 8) {b : Nat} (hb : b < 32) : xb (sA R m n) b = (decide (b < 16 ∧ b % 8 < n) && R (16 * m + b)) := by
  induction n with
  | zero =>
    show xb 0 b = _
    rw [xb_zero, decide_eq_false (by omega)]; rfl
  | succ n ih =>
    have ih := ih (by omega)
    have inner : xb (if R (16 * m + n) = true then x_or (sA R m n) (x_shl 1 n) else sA R m n) b = (decide ((b < 16 ∧ b % 8 < n) ∨ b = n) && R (16 * m + b)) := by
      by_cases q : R (16 * m + n) = true
      · rw [if_pos q, xb_or, ih, xb_one32 (by omega) hb]
        by_cases c : b = n
        · subst c; rw [q]; simp
        · simp [c]
      · rw [if_neg q, ih]
        by_cases c : b = n
        · subst c
          rw [show R (16 * m + b) = false by simpa using q]; simp
        · simp [c]
    show xb (if R (16 * m + 8 + n) = true then x_or _ (x_shl 1 ((8 + n : Nat) : Int)) else _) b = _
    by_cases q : R (16 * m + 8 + n) = true
    · rw [if_pos q, xb_or, inner, xb_one32 (by omega) hb]
      by_cases c : b = 8 + n
      · subst c
        rw [show 16 * m + (8 + n) = 16 * m + 8 + n by omega, q]
        have : (8 + n < 16 ∧ (8 + n) % 8 < n + 1) := by omega
        rw [decide_eq_true this, decide_eq_true (show 8 + n = 8 + n from rfl)]
        simp
      · have : ((b < 16 ∧ b % 8 < n) ∨ b = n) = (b < 16 ∧ b % 8 < n + 1) := by apply propext; omega
        simp only [c, this]; simp
    · rw [if_neg q, inner]
      by_cases c : b = 8 + n
      · subst c
        rw [show 16 * m + (8 + n) = 16 * m + 8 + n by omega, show R (16 * m + 8 + n) = false by simpa using q]; simp
      · have : ((b < 16 ∧ b % 8 < n) ∨ b = n) = (b < 16 ∧ b % 8 < n + 1) := by apply propext; omega
        simp only [this]
theorem sN_bit (R : Nat → Bool) (m : Nat) {n : Nat} (hn : n ≤ 16) {b : Nat} (hb : b < 32) : xb (sN R m n) b = (decide (b < n) && R (16 * m + b)) := by
  induction n with
  | zero =>
    show xb 0 b = _
    rw [xb_zero, decide_eq_false (by omega)]; rfl
  | succ n ih =>
    have ih := ih (by omega)
    show xb (if R (16 * m + n) = true then x_or (sN R m n) (x_shl 1 n) else sN R m n) b = _
    by_cases q : R (16 * m + n) = true
    · rw [if_pos q, xb_or, ih, xb_one32 (by omega) hb]
      by_cases c : b = n
      · subst c; rw [q]; simp
      · have : (b < n) = (b < n + 1) := by apply propext; omega
        simp only [c, this]; simp
    · rw [if_neg q, ih]
      by_cases c : b = n
      · subst c; rw [show R (16 * m + b) = false by simpa using q]; simp
      · have : (b < n) = (b < n + 1) := by apply propext; omega
        simp only [this]
theorem sA_r (R : Nat → Bool) (m n : Nat) : x_r32 (sA R m n) := by
  induction n with
  | zero => exact x_r0
  | succ n ih =>
    show x_r32 (if _ then x_or _ _ else if _ then x_or _ _ else _)
    split
    · exact x_or_r _ _
    · split
      · exact x_or_r _ _
      · exact ih
theorem sN_r (R : Nat → Bool) (m n : Nat) : x_r32 (sN R m n) := by
  induction n with
  | zero => exact x_r0
  | succ n ih =>
    show x_r32 (if _ then x_or _ _ else _)
    split
    · exact x_or_r _ _
    · exact ih
/-- the net doesn't know of pieces that aren't there -/
theorem cutF_S {h : HH} (hh : Hwf h) (sh : Nat → Nat → Bool) (by' times : Nat) (set : Int) (hb : by' ≤ 20) {S T : Nat → Bool} (e1 : S 336 = T 336) (e2 : S 337 = T 337) (e : ∀ m p, m ≤ 20 → p < h.2 0 → S (16 * m + p) = T (16 * m + p) ∧ S (16 * m + 8 + p) = T (16 * m + 8 + p)) : cutF h sh by' times set S = cutF h sh by' times set T := by
  have b := hh.1
  have ii : ∀ a b c, S a = T a → S b = T b → ind S a b c = ind T a b c := fun a b c h1 h2 => by unfold ind; rw [h1, h2]
  unfold cutF kM
  congr 1
  · refine su_congr (fun g hg => ?_)
    have bg := hh.2.2.2.2.2.2.1 g hg
    unfold kG
    split
    · exact ii _ _ _ e1 (e _ _ (by omega) (by omega)).1
    · rfl
  · refine su_congr (fun m hm => ?_)
    congr 1
    · refine su_congr (fun p hp => ?_)
      unfold kP
      rw [ii _ _ _ (e m p (by omega) hp).1 (e m p (by omega) hp).2]
      congr 1
      split
      · rw [ii (16 * m + 8 + p) (16 * (m + 1) + p) _ (e m p (by omega) hp).2 (e (m + 1) p (by omega) hp).1, ii (16 * m + 8 + p) 337 _ (e m p (by omega) hp).2 e2]
      · rfl
    · refine su_congr (fun w hw => ?_)
      have bw := hh.2.2.1 w hw
      unfold kW
      by_cases q : (m : Int) + h.1 1 w 2 * times ≤ by'
      · rw [if_pos q, if_pos q]
        have : 0 ≤ h.1 1 w 2 * times := Int.mul_nonneg (by omega) (by omega)
        rw [ii _ _ _ (e m (h.1 1 w 0).toNat (by omega) (by omega)).2 (e ((m : Int) + h.1 1 w 2 * times).toNat (h.1 1 w 1).toNat (by omega) (by omega)).1, ii _ _ _ (e m (h.1 1 w 1).toNat (by omega) (by omega)).2 (e ((m : Int) + h.1 1 w 2 * times).toNat (h.1 1 w 0).toNat (by omega) (by omega)).1]
      · rw [if_neg q, if_neg q]
theorem side_no {h : HH} (hh : Hwf h) (sh : Nat → Nat → Bool) (by' times : Nat) (set : Int) (hb : by' ≤ 20) (hs : isSide (cutF h sh by' times set) (f_side (cutF h sh by' times set))) {m b : Nat} (hm : m ≤ 20) (hb16 : b < 16) (hb8 : h.2 0 ≤ b % 8) : f_side (cutF h sh by' times set) (16 * m + b) = false := by
  have b0 := hh.1
  generalize hF : cutF h sh by' times set = F at *
  obtain ⟨s1, s2, s3⟩ := hs
  have eS : F (fun n => f_side F n && !decide (n = 16 * m + b)) = mv F := by
    rw [← s2, ← hF]
    have d1 : ∀ n, n ≠ 16 * m + b → (fun n => f_side (cutF h sh by' times set) n && !decide (n = 16 * m + b)) n = f_side (cutF h sh by' times set) n := fun n hn => by dsimp only; rw [decide_eq_false hn]; simp
    exact cutF_S hh sh by' times set hb (d1 336 (by omega)) (d1 337 (by omega)) (fun m' p h1 h2 => ⟨d1 _ (by omega), d1 _ (by omega)⟩)
  by_cases q : f_side F (16 * m + b) = true
  · have := s3 (fun n => f_side F n && !decide (n = 16 * m + b)) ⟨by show (f_side F 336 && !decide (336 = 16 * m + b)) = true; rw [s1.1, decide_eq_false (by omega)]; rfl, by show (f_side F 337 && !decide (337 = 16 * m + b)) = false; rw [s1.2]; rfl⟩ eS (16 * m + b) q
    rw [decide_eq_true (show 16 * m + b = 16 * m + b from rfl)] at this
    simp at this
  · simpa using q
theorem sA_sN {h : HH} (hh : Hwf h) (sh : Nat → Nat → Bool) (by' times : Nat) (set : Int) (hb : by' ≤ 20) (hs : isSide (cutF h sh by' times set) (f_side (cutF h sh by' times set))) {m : Nat} (hm : m ≤ 20) : sA (f_side (cutF h sh by' times set)) m (h.2 0) = sN (f_side (cutF h sh by' times set)) m 16 := by
  refine xb_ext (sA_r _ _ _) (sN_r _ _ _) (fun b hb32 => ?_)
  rw [sA_bit _ _ hh.1.1 hb32, sN_bit _ _ (Nat.le_refl _) hb32]
  by_cases c : b < 16
  · by_cases c2 : b % 8 < h.2 0
    · rw [decide_eq_true ⟨c, c2⟩, decide_eq_true c]
    · rw [decide_eq_false (fun z => c2 z.2), side_no hh sh by' times set hb hs hm c (by omega)]; simp
  · rw [decide_eq_false (fun z => c z.1), decide_eq_false c]
section CM2
variable {h : HH} {G : Nat → Nat → Int}
theorem c_sideAt (hh : Hwf h) (r : fRep h G) (R : Nat → Bool) (m : Nat) (hm : m ≤ 20) (hR : ∀ p, p < 8 → G ne_seen (16 * m + 2 * p) = sd (R (16 * m + p)) ∧ G ne_seen (16 * m + 2 * p + 1) = sd (R (16 * m + 8 + p))) : x_M y_Es_sideAt [oEs, xI (m : Int)] (S0, G) (x_is (.inl (some (xI (sA R m (h.2 0))))) (S0, G)) := by
  have b := hh.1
  have hsd : ∀ b : Bool, (if sd b = 0 then (0 : Int) else 1) = sd b := fun b => by cases b <;> rfl
  refine x_of 2 rfl (Nat.le_of_ble_eq_true rfl) ?_
  show x_A y_Es_sideAt 0 [some oEs, some (xI (m : Int)), none, none] [] (S0, G) 0 0 _
  refine x_iconst (0) d_Es_sideAt_0 rfl ⟨by decide, by decide⟩ ?_
  refine x_istore_n d_Es_sideAt_1 rfl (by decide) ?_
  dsimp only [x_st1, x_st2, x_kill, List.set, List.getElem?_cons_zero, List.getElem?_cons_succ]
  refine x_iconst (0) d_Es_sideAt_2 rfl ⟨by decide, by decide⟩ ?_
  refine x_istore_n d_Es_sideAt_3 rfl (by decide) ?_
  dsimp only [x_st1, x_st2, x_kill, List.set, List.getElem?_cons_zero, List.getElem?_cons_succ]
  generalize hQ : x_is (.inl (some (xI (sA R m (h.2 0))))) (S0, G) = Q
  refine x_up_to (P := fun p => x_A y_Es_sideAt 4 [some oEs, some (xI (m : Int)), some (xI (sA R m p)), some (xI (p : Int))] [] (S0, G) 0 0 Q) 0 (h.2 0) (Nat.zero_le _) ?_ (fun p _ hp k => ?_)
  · refine x_iload_n d_Es_sideAt_4 rfl rfl ?_
    refine x_aload_n d_Es_sideAt_5 rfl rfl ?_
    refine x_getF (kf := 0) d_Es_sideAt_6 rfl rfl rfl in_Es f_Es_18 ?_
    refine x_getF (kf := 0) d_Es_sideAt_9 rfl rfl rfl in_Ho f_Es_74 ?_
    refine x_V1 d_Es_sideAt_12 e_Es_sideAt_Ta_size ⟨rfl, rfl, Nat.zero_le _, Nat.zero_le _⟩ rfl rfl rfl rfl (Nat.le_of_ble_eq_true rfl) (k_size r 0 (by decide)) ?_
    refine x_icmp_ge (69) d_Es_sideAt_15 (by decide) (fun g => ?_) (fun g => ?_)
    · refine x_iload_n d_Es_sideAt_69 rfl rfl ?_
      refine x_ireturn d_Es_sideAt_70 rfl ?_ (Nat.zero_le _) (Nat.zero_le _)
      rw [← hQ]
      exact ⟨rfl, rfl⟩
    · omega
  · obtain ⟨q1, q2⟩ := hR p (by omega)
    have second : ∀ s : Int, (if R (16 * m + p) = true then x_or (sA R m p) (x_shl 1 p) else sA R m p) = s → x_A y_Es_sideAt 39 [some oEs, some (xI (m : Int)), some (xI s), some (xI (p : Int))] [] (S0, G) 0 0 Q := by
      intro s hs
      have e : sA R m (p + 1) = if R (16 * m + 8 + p) = true then x_or s (x_shl 1 ((8 + p : Nat) : Int)) else s := by rw [← hs]; rfl
      refine x_aload_n d_Es_sideAt_39 rfl rfl ?_
      refine x_getF (kf := 2) d_Es_sideAt_40 rfl rfl rfl in_Es f_Es_12 ?_
      refine x_iload_n d_Es_sideAt_43 rfl rfl ?_
      refine x_iload_n d_Es_sideAt_44 rfl rfl ?_
      refine x_S1 d_Es_sideAt_45 e_Es_sideAt_Es_being ⟨rfl, rfl, Nat.zero_le _, Nat.zero_le _⟩ rfl rfl (Nat.le_of_ble_eq_true rfl) (c_ebeing _ p m (by omega) (by omega)) ?_
      refine x_V1 d_Es_sideAt_48 e_Es_sideAt_Ne_isReached ⟨rfl, rfl, Nat.zero_le _, Nat.zero_le _⟩ rfl rfl rfl rfl (Nat.le_of_ble_eq_true rfl) (c_isReached _ (by omega)) ?_
      rw [q2, hsd]
      by_cases c : R (16 * m + 8 + p) = true
      · rw [if_pos c] at e
        rw [c]
        refine x_if_eq (63) d_Es_sideAt_51 (by decide) (fun g => ?_) (fun g => ?_)
        · cases g
        · refine x_iload_n d_Es_sideAt_54 rfl rfl ?_
          refine x_iconst (1) d_Es_sideAt_55 rfl ⟨by decide, by decide⟩ ?_
          refine x_bipush (8) d_Es_sideAt_56 rfl ⟨by decide, by decide⟩ ?_
          refine x_iload_n d_Es_sideAt_58 rfl rfl ?_
          refine x_iaddN d_Es_sideAt_59 (by omega) (by omega) ?_
          rw [show (8 : Int) + p = ((8 + p : Nat) : Int) by omega]
          refine x_ishl d_Es_sideAt_60 ?_
          refine x_ior d_Es_sideAt_61 ?_
          refine x_istore_n d_Es_sideAt_62 rfl (by decide) ?_
          dsimp only [x_st1, x_st2, x_kill, List.set, List.getElem?_cons_zero, List.getElem?_cons_succ]
          refine x_iincN d_Es_sideAt_63 rfl (by decide) (by omega) (by omega) ?_
          dsimp only [x_st1, x_st2, x_kill, List.set, List.getElem?_cons_zero, List.getElem?_cons_succ]
          refine x_goto (4) d_Es_sideAt_66 (by decide) ?_
          rw [e] at k
          exact k
      · rw [if_neg c] at e
        rw [show R (16 * m + 8 + p) = false by simpa using c]
        refine x_if_eq (63) d_Es_sideAt_51 (by decide) (fun g => ?_) (fun g => ?_)
        · refine x_iincN d_Es_sideAt_63 rfl (by decide) (by omega) (by omega) ?_
          dsimp only [x_st1, x_st2, x_kill, List.set, List.getElem?_cons_zero, List.getElem?_cons_succ]
          refine x_goto (4) d_Es_sideAt_66 (by decide) ?_
          rw [e] at k
          exact k
        · exact absurd rfl g
    refine x_iload_n d_Es_sideAt_4 rfl rfl ?_
    refine x_aload_n d_Es_sideAt_5 rfl rfl ?_
    refine x_getF (kf := 0) d_Es_sideAt_6 rfl rfl rfl in_Es f_Es_18 ?_
    refine x_getF (kf := 0) d_Es_sideAt_9 rfl rfl rfl in_Ho f_Es_74 ?_
    refine x_V1 d_Es_sideAt_12 e_Es_sideAt_Ta_size ⟨rfl, rfl, Nat.zero_le _, Nat.zero_le _⟩ rfl rfl rfl rfl (Nat.le_of_ble_eq_true rfl) (k_size r 0 (by decide)) ?_
    refine x_icmp_ge (69) d_Es_sideAt_15 (by decide) (fun g => ?_) (fun g => ?_)
    · omega
    · refine x_aload_n d_Es_sideAt_18 rfl rfl ?_
      refine x_getF (kf := 2) d_Es_sideAt_19 rfl rfl rfl in_Es f_Es_12 ?_
      refine x_iload_n d_Es_sideAt_22 rfl rfl ?_
      refine x_iload_n d_Es_sideAt_23 rfl rfl ?_
      refine x_S1 d_Es_sideAt_24 e_Es_sideAt_Es_begin ⟨rfl, rfl, Nat.zero_le _, Nat.zero_le _⟩ rfl rfl (Nat.le_of_ble_eq_true rfl) (c_ebegin _ p m (by omega) (by omega)) ?_
      refine x_V1 d_Es_sideAt_27 e_Es_sideAt_Ne_isReached ⟨rfl, rfl, Nat.zero_le _, Nat.zero_le _⟩ rfl rfl rfl rfl (Nat.le_of_ble_eq_true rfl) (c_isReached _ (by omega)) ?_
      rw [q1, hsd]
      by_cases c : R (16 * m + p) = true
      · rw [c]
        refine x_if_eq (39) d_Es_sideAt_30 (by decide) (fun g => ?_) (fun g => ?_)
        · cases g
        · refine x_iload_n d_Es_sideAt_33 rfl rfl ?_
          refine x_iconst (1) d_Es_sideAt_34 rfl ⟨by decide, by decide⟩ ?_
          refine x_iload_n d_Es_sideAt_35 rfl rfl ?_
          refine x_ishl d_Es_sideAt_36 ?_
          refine x_ior d_Es_sideAt_37 ?_
          refine x_istore_n d_Es_sideAt_38 rfl (by decide) ?_
          dsimp only [x_st1, x_st2, x_kill, List.set, List.getElem?_cons_zero, List.getElem?_cons_succ]
          exact second _ (if_pos c)
      · rw [show R (16 * m + p) = false by simpa using c]
        refine x_if_eq (39) d_Es_sideAt_30 (by decide) (fun g => ?_) (fun g => ?_)
        · exact second _ (if_neg c)
        · exact absurd rfl g
end CM2
