theorem PNp.po {s : rS} {k : Nat} (h : PNp s) (e : rR s 7 = k) (hn : rF s k 7 ≤ 50000) : ∀ j, 0 ≤ j → j < rF s k 32 → 0 ≤ rA s (1000 * (k + 1) + 31) j ∧ rA s (1000 * (k + 1) + 31) j < 50000 := by
  subst e
  intro j j0 j1
  have := h.2 j j0 j1
  omega
theorem RWp.z {b : Int → Int} {a e : Int} (h : e = a) : RWp b a e := fun j h1 h2 => absurd h1 (by omega)
theorem RWp.mv {b b' : Int → Int} {a e e' : Int} (h : RWp b a e) (hb : ∀ i, b' i = b i) (he : e' = e) : RWp b' a e' := by subst he; exact h.cg (fun j _ => hb j)
theorem RWp.t {s t : rS} {k : Nat} {a q : Int} (h : RWp (rA s 1034) a (rF s 0 38)) (R : RG s t k 0) (hw : rF t 0 38 = rF s 0 38 + 1) (hq : rA t 1034 (rF s 0 38) = q) (h3 : q = 3 ∨ q = 20 ∨ q = 21) : RWp (rA t 1034) a (rF t 0 38) := by
  rw [hw]; exact h.s (fun j hj => (R.2.2.2.2.1 j hj).1) (by rw [hq]; exact h3)
theorem RWp.t2 {s t : rS} {k : Nat} {a q z : Int} (h : RWp (rA s 1034) a (rF s 0 38)) (R : RG s t k 0) (hw : rF t 0 38 = rF s 0 38 + 1) (hq : rA t 1034 (rF s 0 38) = q) (h3 : q = 3 ∨ q = 20 ∨ q = 21) : RWp (rA (sF t 0 29 z) 1034) a (rF t 0 38) := by
  have q : RWp (rA t 1034) a (rF t 0 38) := RWp.t h R hw hq h3
  exact q
def NBT (σ σ' : rS) (gg : Nat) (sl sn o : Int) : Prop := (rF σ 0 29) ≤ (rF σ' 0 29) ∧ (rF σ' 0 29) ≤ (rF σ 0 28) + 3 * fz σ' ∧ fz σ ≤ fz σ' ∧ (rF σ 0 38) ≤ (rF σ' 0 38) ∧ (rF σ' 0 38) + (rF σ 0 29) ≤ (rF σ 0 38) + (rF σ' 0 29) ∧ (rF σ gg 7) ≤ (rF σ' gg 7) ∧ (rF σ' gg 7) + 3 * (rF σ' 0 38) + 4 * (rF σ 0 29) + sn ≤ (rF σ gg 7) + 3 * (rF σ 0 38) + 4 * (rF σ' 0 29) + sl * fz σ' ∧ (rF σ gg 9) ≤ (rF σ' gg 9) ∧ (rF σ' gg 9) + (rF σ' 0 38) + (rF σ 0 29) ≤ (rF σ gg 9) + (rF σ 0 38) + (rF σ' 0 29) ∧ (rF σ gg 12) ≤ (rF σ' gg 12) ∧ (rF σ' gg 12) + (rF σ 0 29) ≤ (rF σ gg 12) + (rF σ' 0 29) ∧ (rF σ gg 38) ≤ (rF σ' gg 38) ∧ (rF σ' gg 38) + (rF σ 0 29) ≤ (rF σ gg 38) + (rF σ' 0 29) + fz σ' - fz σ ∧ (rF σ gg 32) ≤ (rF σ' gg 32) ∧ 2 * (rF σ' gg 32) + (rF σ 0 29) ≤ 2 * (rF σ gg 32) + (rF σ' 0 29) ∧ o ≤ (rF σ' 0 39) + 30 * fz σ' ∧ 0 ≤ (rF σ' 0 39) ∧ (rF σ' 0 39) ≤ 21 ∧ 0 ≤ (rF σ' 0 31) ∧ (rF σ' 0 31) ≤ 22 ∧ (rF σ' 0 31) ≤ 20 + 2 * fz σ' ∧ (rF σ' 0 31) + (rF σ 0 39) ≤ (rF σ 0 31) + (rF σ' 0 39) + 60 * fz σ' ∧ (rF σ 0 31) + (rF σ' 0 39) ≤ (rF σ' 0 31) + (rF σ 0 39) + 60 * fz σ' ∧ (rF σ 0 31) + o ≤ (rF σ' 0 31) + (rF σ 0 39) ∧ (rF σ' 0 39) ≤ (rF σ' 0 31) + 1 + 30 * fz σ'
def pre_X14_isSteering_t (σ : rS)  : Prop := 0 ≤ (rF σ 0 29) ∧ (rF σ 0 29) ≤ (rF σ 0 28) ∧ (rF σ 0 28) ≤ 4001
def post_X14_isSteering_t (σ : rS)  (r : Int) : Prop := (r = 0 ∨ r = 1) ∧ (r = 1 → (rF σ 0 29) + 2 ≤ (rF σ 0 28))
def VC_X14_isSteering_t (σ : rS) (Q : Int → Prop) : Prop := pre_X14_isWord_t σ 2 ∧ (∀ (v4 : Int), rng v4 → post_X14_isWord_t σ 2 v4 → ((¬ v4 = 0 → Q 1) ∧ (v4 = 0 → pre_X14_isWord_t σ 6 ∧ (∀ (v14 : Int), rng v14 → post_X14_isWord_t σ 6 v14 → ((¬ v14 = 0 → Q 1) ∧ (v14 = 0 → pre_X14_isWord_t σ 4 ∧ (∀ (v24 : Int), rng v24 → post_X14_isWord_t σ 4 v24 → ((¬ v24 = 0 → Q 1) ∧ (v24 = 0 → pre_X14_isWord_t σ 5 ∧ (∀ (v34 : Int), rng v34 → post_X14_isWord_t σ 5 v34 → ((v34 = 0 → Q 0) ∧ (¬ v34 = 0 → Q 1))))))))))))
set_option maxHeartbeats 20000000 in
theorem vX14_isSteering_t (σ : rS) (hwf : rWF σ) (hp : pre_X14_isSteering_t σ ) : VC_X14_isSteering_t σ (post_X14_isSteering_t σ ) := by
  unfold pre_X14_isSteering_t at hp
  obtain ⟨hp_1, hp_2, hp_3⟩ := hp
  unfold VC_X14_isSteering_t
  refine ⟨(by (try simp only [pre_X14_isWord_t]); (all_goals (repeat' (first | with_reducible intro _ | with_reducible apply And.intro))); all_goals (first | assumption | trivial | omega | (have zz_ := fz_z (by assumption); omega) | (split <;> omega) | grind (splits := 20))), ?_⟩
  intro v4 hv4 q4
  unfold rng at hv4
  unfold post_X14_isWord_t at q4
  obtain ⟨q4_1, q4_2, q4_3⟩ := q4
  refine ⟨fun c7 => ?_, fun c7 => ?_⟩
  · exact (by (try simp only [post_X14_isSteering_t]); (all_goals (repeat' (first | with_reducible intro _ | with_reducible apply And.intro))); all_goals (first | assumption | trivial | omega | (have zz_ := fz_z (by assumption); omega) | (split <;> omega) | grind (splits := 20)))
  · refine ⟨(by (try simp only [pre_X14_isWord_t]); (all_goals (repeat' (first | with_reducible intro _ | with_reducible apply And.intro))); all_goals (first | assumption | trivial | omega | (have zz_ := fz_z (by assumption); omega) | (split <;> omega) | grind (splits := 20))), ?_⟩
    intro v14 hv14 q14
    unfold rng at hv14
    unfold post_X14_isWord_t at q14
    obtain ⟨q14_1, q14_2, q14_3⟩ := q14
    refine ⟨fun c17 => ?_, fun c17 => ?_⟩
    · exact (by (try simp only [post_X14_isSteering_t]); (all_goals (repeat' (first | with_reducible intro _ | with_reducible apply And.intro))); all_goals (first | assumption | trivial | omega | (have zz_ := fz_z (by assumption); omega) | (split <;> omega) | grind (splits := 20)))
    · refine ⟨(by (try simp only [pre_X14_isWord_t]); (all_goals (repeat' (first | with_reducible intro _ | with_reducible apply And.intro))); all_goals (first | assumption | trivial | omega | (have zz_ := fz_z (by assumption); omega) | (split <;> omega) | grind (splits := 20))), ?_⟩
      intro v24 hv24 q24
      unfold rng at hv24
      unfold post_X14_isWord_t at q24
      obtain ⟨q24_1, q24_2, q24_3⟩ := q24
      refine ⟨fun c27 => ?_, fun c27 => ?_⟩
      · exact (by (try simp only [post_X14_isSteering_t]); (all_goals (repeat' (first | with_reducible intro _ | with_reducible apply And.intro))); all_goals (first | assumption | trivial | omega | (have zz_ := fz_z (by assumption); omega) | (split <;> omega) | grind (splits := 20)))
      · refine ⟨(by (try simp only [pre_X14_isWord_t]); (all_goals (repeat' (first | with_reducible intro _ | with_reducible apply And.intro))); all_goals (first | assumption | trivial | omega | (have zz_ := fz_z (by assumption); omega) | (split <;> omega) | grind (splits := 20))), ?_⟩
        intro v34 hv34 q34
        unfold rng at hv34
        unfold post_X14_isWord_t at q34
        obtain ⟨q34_1, q34_2, q34_3⟩ := q34
        refine ⟨fun c37 => ?_, fun c37 => ?_⟩
        · exact (by (try simp only [post_X14_isSteering_t]); (all_goals (repeat' (first | with_reducible intro _ | with_reducible apply And.intro))); all_goals (first | assumption | trivial | omega | (have zz_ := fz_z (by assumption); omega) | (split <;> omega) | grind (splits := 20)))
        · exact (by (try simp only [post_X14_isSteering_t]); (all_goals (repeat' (first | with_reducible intro _ | with_reducible apply And.intro))); all_goals (first | assumption | trivial | omega | (have zz_ := fz_z (by assumption); omega) | (split <;> omega) | grind (splits := 20)))
theorem wX14_isSteering_t (l : Launch) (G : zG) (κ : Nat → Nat) (σ : rS) (hwf : rWF σ) (Q : Int → Prop) (h : VC_X14_isSteering_t σ Q) : rMi l G κ yX14_isSteering cX14_isSteering 1 .boolean 6 167 [.ref (κ 0)] σ (fun x s => s = σ ∧ Q x) := by
  refine zMi.intro (by decide +kernel) (Nat.le_of_ble_eq_true rfl) (fun X hC hR => ?_)
  refine z_aload_n hC (pc := 0) 0 dX14_isSteering_0 rfl rfl ?_
  refine z_ldcSw hC (pc := 1) dX14_isSteering_1 zS_46 ?_
  obtain ⟨p10, h⟩ := h
  refine y_callVi hC (pc := 4) (As := [.ref (G.2.2 93)]) (kX14_isWord_t l G κ σ (G.2.2 93) 2 hwf (rSt_46 G) p10) dmX14_isWord zf14 rOb_0 dX14_isSteering_4 zw3128 rfl rfl (Nat.le_of_ble_eq_true rfl) (Nat.le_of_ble_eq_true rfl) (Nat.le_of_ble_eq_true rfl) (Nat.le_of_ble_eq_true rfl) (Nat.le_of_ble_eq_true rfl) (kk := fun v4 s4 hv4 Ws4 qs4 => ?_)
  obtain ⟨es4, qs4⟩ := qs4
  have es4 := es4.symm
  subst es4
  have h := h v4 hv4 qs4
  obtain ⟨hT, hF⟩ := h
  refine y_if_ne hC (pc := 7) 40 hv4 dX14_isSteering_7 (by decide) (fun c => ?_) (fun c => ?_)
  · have h := hT c
    refine z_iconst hC (pc := 40) (v := Int32.ofInt 1) dX14_isSteering_40 (by decide) ?_
    refine z_goto hC (pc := 41) 45 dX14_isSteering_41 (by decide) ?_
    exact y_reti hR dX14_isSteering_45 rfl (r_lit rfl) hwf (Nat.le_of_ble_eq_true rfl) (Nat.le_of_ble_eq_true rfl) ⟨rfl, h⟩
  · have h := hF c
    refine z_aload_n hC (pc := 10) 0 dX14_isSteering_10 rfl rfl ?_
    refine z_ldcSw hC (pc := 11) dX14_isSteering_11 zS_47 ?_
    obtain ⟨p11, h⟩ := h
    refine y_callVi hC (pc := 14) (As := [.ref (G.2.2 95)]) (kX14_isWord_t l G κ σ (G.2.2 95) 6 hwf (rSt_47 G) p11) dmX14_isWord zf14 rOb_0 dX14_isSteering_14 zw3128 rfl rfl (Nat.le_of_ble_eq_true rfl) (Nat.le_of_ble_eq_true rfl) (Nat.le_of_ble_eq_true rfl) (Nat.le_of_ble_eq_true rfl) (Nat.le_of_ble_eq_true rfl) (kk := fun v14 s14 hv14 Ws14 qs14 => ?_)
    obtain ⟨es14, qs14⟩ := qs14
    have es14 := es14.symm
    subst es14
    have h := h v14 hv14 qs14
    obtain ⟨hT, hF⟩ := h
    refine y_if_ne hC (pc := 17) 40 hv14 dX14_isSteering_17 (by decide) (fun c => ?_) (fun c => ?_)
    · have h := hT c
      refine z_iconst hC (pc := 40) (v := Int32.ofInt 1) dX14_isSteering_40 (by decide) ?_
      refine z_goto hC (pc := 41) 45 dX14_isSteering_41 (by decide) ?_
      exact y_reti hR dX14_isSteering_45 rfl (r_lit rfl) hwf (Nat.le_of_ble_eq_true rfl) (Nat.le_of_ble_eq_true rfl) ⟨rfl, h⟩
    · have h := hF c
      refine z_aload_n hC (pc := 20) 0 dX14_isSteering_20 rfl rfl ?_
      refine z_ldcSw hC (pc := 21) dX14_isSteering_21 zS_48 ?_
      obtain ⟨p12, h⟩ := h
      refine y_callVi hC (pc := 24) (As := [.ref (G.2.2 97)]) (kX14_isWord_t l G κ σ (G.2.2 97) 4 hwf (rSt_48 G) p12) dmX14_isWord zf14 rOb_0 dX14_isSteering_24 zw3128 rfl rfl (Nat.le_of_ble_eq_true rfl) (Nat.le_of_ble_eq_true rfl) (Nat.le_of_ble_eq_true rfl) (Nat.le_of_ble_eq_true rfl) (Nat.le_of_ble_eq_true rfl) (kk := fun v24 s24 hv24 Ws24 qs24 => ?_)
      obtain ⟨es24, qs24⟩ := qs24
      have es24 := es24.symm
      subst es24
      have h := h v24 hv24 qs24
      obtain ⟨hT, hF⟩ := h
      refine y_if_ne hC (pc := 27) 40 hv24 dX14_isSteering_27 (by decide) (fun c => ?_) (fun c => ?_)
      · have h := hT c
        refine z_iconst hC (pc := 40) (v := Int32.ofInt 1) dX14_isSteering_40 (by decide) ?_
        refine z_goto hC (pc := 41) 45 dX14_isSteering_41 (by decide) ?_
        exact y_reti hR dX14_isSteering_45 rfl (r_lit rfl) hwf (Nat.le_of_ble_eq_true rfl) (Nat.le_of_ble_eq_true rfl) ⟨rfl, h⟩
      · have h := hF c
        refine z_aload_n hC (pc := 30) 0 dX14_isSteering_30 rfl rfl ?_
        refine z_ldcSw hC (pc := 31) dX14_isSteering_31 zS_49 ?_
        obtain ⟨p13, h⟩ := h
        refine y_callVi hC (pc := 34) (As := [.ref (G.2.2 99)]) (kX14_isWord_t l G κ σ (G.2.2 99) 5 hwf (rSt_49 G) p13) dmX14_isWord zf14 rOb_0 dX14_isSteering_34 zw3128 rfl rfl (Nat.le_of_ble_eq_true rfl) (Nat.le_of_ble_eq_true rfl) (Nat.le_of_ble_eq_true rfl) (Nat.le_of_ble_eq_true rfl) (Nat.le_of_ble_eq_true rfl) (kk := fun v34 s34 hv34 Ws34 qs34 => ?_)
        obtain ⟨es34, qs34⟩ := qs34
        have es34 := es34.symm
        subst es34
        have h := h v34 hv34 qs34
        obtain ⟨hT, hF⟩ := h
        refine y_if_eq hC (pc := 37) 44 hv34 dX14_isSteering_37 (by decide) (fun c => ?_) (fun c => ?_)
        · have h := hT c
          refine z_iconst hC (pc := 44) (v := Int32.ofInt 0) dX14_isSteering_44 (by decide) ?_
          exact y_reti hR dX14_isSteering_45 rfl (r_lit rfl) hwf (Nat.le_of_ble_eq_true rfl) (Nat.le_of_ble_eq_true rfl) ⟨rfl, h⟩
        · have h := hF c
          refine z_iconst hC (pc := 40) (v := Int32.ofInt 1) dX14_isSteering_40 (by decide) ?_
          refine z_goto hC (pc := 41) 45 dX14_isSteering_41 (by decide) ?_
          exact y_reti hR dX14_isSteering_45 rfl (r_lit rfl) hwf (Nat.le_of_ble_eq_true rfl) (Nat.le_of_ble_eq_true rfl) ⟨rfl, h⟩
theorem kX14_isSteering_t (l : Launch) (G : zG) (κ : Nat → Nat) (σ : rS) (hwf : rWF σ) (hp : pre_X14_isSteering_t σ ) : rMi l G κ yX14_isSteering cX14_isSteering 1 .boolean 6 167 [.ref (κ 0)] σ (fun x s => s = σ ∧ post_X14_isSteering_t σ x) := wX14_isSteering_t l G κ σ hwf (post_X14_isSteering_t σ ) (vX14_isSteering_t σ hwf hp) 
def pre_X14_readBytes_t (σ : rS) (x1 : Int) (gg : Nat) : Prop := rR σ 7 = gg ∧ rgk gg ∧ 0 ≤ (rF σ 0 29) ∧ (rF σ 0 29) ≤ (rF σ 0 28) ∧ (rF σ 0 28) ≤ 4001 ∧ TPRp σ ∧ WNp σ ∧ (rF σ 0 38) + ((rF σ 0 28) + 3 - (rF σ 0 29)) ≤ 8990 ∧ 0 ≤ (rF σ 0 38) ∧ (rF σ 0 10) = 0 ∧ 0 ≤ x1 ∧ x1 ≤ 4000 ∧ 0 ≤ (rF σ 0 19)
def post_X14_readBytes_t (σ : rS) (x1 : Int) (gg : Nat) (σ' : rS) : Prop := (rF σ 0 29) ≤ (rF σ' 0 29) ∧ (rF σ' 0 29) ≤ (rF σ 0 28) ∧ (rF σ 0 38) ≤ (rF σ' 0 38) ∧ (rF σ' 0 38) + (rF σ 0 29) ≤ (rF σ 0 38) + (rF σ' 0 29) ∧ WNp σ' ∧ RWp (rA σ' 1034) (rF σ 0 38) (rF σ' 0 38) ∧ RG σ σ' gg 0
def inv_X14_readBytes_t_70 (σ : rS) (x1 : Int) (gg : Nat)  (s : rS)  : Prop := (rF σ 0 29) ≤ (rF s 0 29) ∧ (rF s 0 29) ≤ (rF σ 0 28) ∧ (rF s 0 10) = 0 ∧ (rF s 0 38) = (rF σ 0 38) ∧ WNp s ∧ RWp (rA s 1034) (rF σ 0 38) (rF s 0 38) ∧ RG σ s gg 0
def mu_X14_readBytes_t_70 (σ : rS) (x1 : Int) (gg : Nat) (s : rS)  : Nat := (1 + ((rF σ 0 28) - (rF s 0 29)).toNat)
def inv_X14_readBytes_t_130 (σ : rS) (x1 : Int) (gg : Nat)  (s : rS)  : Prop := (rF σ 0 29) ≤ (rF s 0 29) ∧ (rF s 0 29) ≤ (rF σ 0 28) ∧ (rF s 0 10) = 0 ∧ (rF s 0 38) = (rF σ 0 38) ∧ (rF σ 0 29) + 1 ≤ (rF s 0 29) ∧ WNp s ∧ RWp (rA s 1034) (rF σ 0 38) (rF s 0 38) ∧ RG σ s gg 0
def mu_X14_readBytes_t_130 (σ : rS) (x1 : Int) (gg : Nat) (s : rS)  : Nat := (1 + ((rF σ 0 28) - (rF s 0 29)).toNat)
def inv_X14_readBytes_t_170 (σ : rS) (x1 : Int) (gg : Nat)  (s : rS)  : Prop := (rF σ 0 29) ≤ (rF s 0 29) ∧ (rF s 0 29) ≤ (rF σ 0 28) ∧ (rF s 0 10) = 0 ∧ (rF σ 0 38) ≤ (rF s 0 38) ∧ (rF s 0 38) + (rF σ 0 29) ≤ (rF σ 0 38) + (rF s 0 29) ∧ WNp s ∧ RWp (rA s 1034) (rF σ 0 38) (rF s 0 38) ∧ RG σ s gg 0
def mu_X14_readBytes_t_170 (σ : rS) (x1 : Int) (gg : Nat) (s : rS)  : Nat := (1 + ((rF σ 0 28) - (rF s 0 29)).toNat)
def VC_X14_readBytes_t (σ : rS) (x1 : Int) (gg : Nat) (Q : rS → Prop) : Prop := rgk (rR σ 7) ∧ (rng (rF σ 0 29) → (rng (rF σ 0 28) → rng ((rF σ 0 29) + 1) ∧ (((rF σ 0 28) ≤ ((rF σ 0 29) + 1) → (inv_X14_readBytes_t_170 σ x1 gg σ)) ∧ (¬ (rF σ 0 28) ≤ ((rF σ 0 29) + 1) → (0 ≤ ((rF σ 0 29) + 1) ∧ ((rF σ 0 29) + 1) < 4001) ∧ (rng (rA σ 1026 ((rF σ 0 29) + 1)) → ((¬ (rA σ 1026 ((rF σ 0 29) + 1)) = 92 → (inv_X14_readBytes_t_170 σ x1 gg σ)) ∧ ((rA σ 1026 ((rF σ 0 29) + 1)) = 92 → rng ((rF σ 0 29) + 2) ∧ pre_X14_here (sF σ 0 29 ((rF σ 0 29) + 2)) ∧ (∀ (v40 : Int), rng v40 → post_X14_here (sF σ 0 29 ((rF σ 0 29) + 2)) v40 → (rng (rF σ 0 19) → ((v40 = (rF σ 0 19) → rng (((rF σ 0 29) + 2) + 1) ∧ (inv_X14_readBytes_t_70 σ x1 gg (sF (sF σ 0 29 ((rF σ 0 29) + 2)) 0 29 (((rF σ 0 29) + 2) + 1)))) ∧ (¬ v40 = (rF σ 0 19) → pre_X14_place (sF σ 0 29 ((rF σ 0 29) + 2)) ∧ (∀ (v53 : Int), rng v53 → post_X14_place (sF σ 0 29 ((rF σ 0 29) + 2)) v53 → pre_X14_bad (sF σ 0 29 ((rF σ 0 29) + 2)) 1 v53 ∧ (∀ (s56 : rS), rWF s56 → (TPRp (sF σ 0 29 ((rF σ 0 29) + 2)) → TPRp s56) → (WNp (sF σ 0 29 ((rF σ 0 29) + 2)) → WNp s56) → rR s56 7 = rR (sF σ 0 29 ((rF σ 0 29) + 2)) 7 → rF s56 0 19 = rF (sF σ 0 29 ((rF σ 0 29) + 2)) 0 19 → rF s56 0 28 = rF (sF σ 0 29 ((rF σ 0 29) + 2)) 0 28 → rF s56 0 29 = rF (sF σ 0 29 ((rF σ 0 29) + 2)) 0 29 → rF s56 0 38 = rF (sF σ 0 29 ((rF σ 0 29) + 2)) 0 38 → (∀ i, rA s56 1026 i = rA (sF σ 0 29 ((rF σ 0 29) + 2)) 1026 i) → (∀ i, rA s56 1034 i = rA (sF σ 0 29 ((rF σ 0 29) + 2)) 1034 i) → (∀ i, rA s56 1035 i = rA (sF σ 0 29 ((rF σ 0 29) + 2)) 1035 i) → (∀ i, rA s56 1037 i = rA (sF σ 0 29 ((rF σ 0 29) + 2)) 1037 i) → RG (sF σ 0 29 ((rF σ 0 29) + 2)) s56 (rR σ 7) 0 → post_X14_bad (sF σ 0 29 ((rF σ 0 29) + 2)) 1 v53 s56 → Q s56)))))))))))))
def VC_X14_readBytes_t_170 (σ : rS) (x1 : Int) (gg : Nat) (Q : rS → Prop) : Prop := ∀ (s170 : rS), rWF s170 → (TPRp σ → TPRp s170) → rR s170 7 = rR σ 7 → rF s170 0 19 = rF σ 0 19 → rF s170 0 28 = rF σ 0 28 → (∀ i, rA s170 1026 i = rA σ 1026 i) → inv_X14_readBytes_t_170 σ x1 gg s170 → (pre_X14_here s170 ∧ (∀ (v171 : Int), rng v171 → post_X14_here s170 v171 → ((¬ v171 = 92 → pre_X14_here s170 ∧ (∀ (v273 : Int), rng v273 → post_X14_here s170 v273 → (rng (rF s170 0 19) → ((¬ v273 = (rF s170 0 19) → pre_X14_place s170 ∧ (∀ (v299 : Int), rng v299 → post_X14_place s170 v299 → pre_X14_bad s170 1 v299 ∧ (∀ (s302 : rS), rWF s302 → (TPRp s170 → TPRp s302) → (WNp s170 → WNp s302) → rR s302 7 = rR s170 7 → rF s302 0 19 = rF s170 0 19 → rF s302 0 28 = rF s170 0 28 → rF s302 0 29 = rF s170 0 29 → rF s302 0 38 = rF s170 0 38 → (∀ i, rA s302 1026 i = rA s170 1026 i) → (∀ i, rA s302 1034 i = rA s170 1034 i) → (∀ i, rA s302 1035 i = rA s170 1035 i) → (∀ i, rA s302 1037 i = rA s170 1037 i) → RG s170 s302 (rR σ 7) 0 → post_X14_bad s170 1 v299 s302 → Q s302))) ∧ (v273 = (rF s170 0 19) → (rng (rF s170 0 29) → rng ((rF s170 0 29) + 1) ∧ Q (sF s170 0 29 ((rF s170 0 29) + 1)))))))) ∧ (v171 = 92 → (rng (rF s170 0 10) → ((¬ (rF s170 0 10) = 0 → pre_X14_here s170 ∧ (∀ (v273 : Int), rng v273 → post_X14_here s170 v273 → (rng (rF s170 0 19) → ((¬ v273 = (rF s170 0 19) → pre_X14_place s170 ∧ (∀ (v299 : Int), rng v299 → post_X14_place s170 v299 → pre_X14_bad s170 1 v299 ∧ (∀ (s302 : rS), rWF s302 → (TPRp s170 → TPRp s302) → (WNp s170 → WNp s302) → rR s302 7 = rR s170 7 → rF s302 0 19 = rF s170 0 19 → rF s302 0 28 = rF s170 0 28 → rF s302 0 29 = rF s170 0 29 → rF s302 0 38 = rF s170 0 38 → (∀ i, rA s302 1026 i = rA s170 1026 i) → (∀ i, rA s302 1034 i = rA s170 1034 i) → (∀ i, rA s302 1035 i = rA s170 1035 i) → (∀ i, rA s302 1037 i = rA s170 1037 i) → RG s170 s302 (rR σ 7) 0 → post_X14_bad s170 1 v299 s302 → Q s302))) ∧ (v273 = (rF s170 0 19) → (rng (rF s170 0 29) → rng ((rF s170 0 29) + 1) ∧ Q (sF s170 0 29 ((rF s170 0 29) + 1)))))))) ∧ ((rF s170 0 10) = 0 → (rng (rF s170 0 29) → rng ((rF s170 0 29) + 1) ∧ pre_X14_here (sF s170 0 29 ((rF s170 0 29) + 1)) ∧ (∀ (v197 : Int), rng v197 → post_X14_here (sF s170 0 29 ((rF s170 0 29) + 1)) v197 → ((v197 = 110 → ((¬ v197 = 110 → ((¬ v197 = 116 → pre_X14_note_t (sF s170 0 29 ((rF s170 0 29) + 1)) 3 32 x1 gg ∧ (∀ (s256 : rS), rWF s256 → (TPRp (sF s170 0 29 ((rF s170 0 29) + 1)) → TPRp s256) → rR s256 7 = rR (sF s170 0 29 ((rF s170 0 29) + 1)) 7 → rF s256 0 10 = rF (sF s170 0 29 ((rF s170 0 29) + 1)) 0 10 → rF s256 0 19 = rF (sF s170 0 29 ((rF s170 0 29) + 1)) 0 19 → rF s256 0 28 = rF (sF s170 0 29 ((rF s170 0 29) + 1)) 0 28 → rF s256 0 29 = rF (sF s170 0 29 ((rF s170 0 29) + 1)) 0 29 → (∀ i, rA s256 1026 i = rA (sF s170 0 29 ((rF s170 0 29) + 1)) 1026 i) → post_X14_note_t (sF s170 0 29 ((rF s170 0 29) + 1)) 3 32 x1 gg s256 → rng (((rF s170 0 29) + 1) + 1) ∧ (inv_X14_readBytes_t_170 σ x1 gg (sF s256 0 29 (((rF s170 0 29) + 1) + 1)) ∧ (mu_X14_readBytes_t_170 σ x1 gg (sF s256 0 29 (((rF s170 0 29) + 1) + 1)) ) < (mu_X14_readBytes_t_170 σ x1 gg s170 )))) ∧ (v197 = 116 → pre_X14_note_t (sF s170 0 29 ((rF s170 0 29) + 1)) 3 9 x1 gg ∧ (∀ (s256 : rS), rWF s256 → (TPRp (sF s170 0 29 ((rF s170 0 29) + 1)) → TPRp s256) → rR s256 7 = rR (sF s170 0 29 ((rF s170 0 29) + 1)) 7 → rF s256 0 10 = rF (sF s170 0 29 ((rF s170 0 29) + 1)) 0 10 → rF s256 0 19 = rF (sF s170 0 29 ((rF s170 0 29) + 1)) 0 19 → rF s256 0 28 = rF (sF s170 0 29 ((rF s170 0 29) + 1)) 0 28 → rF s256 0 29 = rF (sF s170 0 29 ((rF s170 0 29) + 1)) 0 29 → (∀ i, rA s256 1026 i = rA (sF s170 0 29 ((rF s170 0 29) + 1)) 1026 i) → post_X14_note_t (sF s170 0 29 ((rF s170 0 29) + 1)) 3 9 x1 gg s256 → rng (((rF s170 0 29) + 1) + 1) ∧ (inv_X14_readBytes_t_170 σ x1 gg (sF s256 0 29 (((rF s170 0 29) + 1) + 1)) ∧ (mu_X14_readBytes_t_170 σ x1 gg (sF s256 0 29 (((rF s170 0 29) + 1) + 1)) ) < (mu_X14_readBytes_t_170 σ x1 gg s170 )))))) ∧ (v197 = 110 → pre_X14_note_t (sF s170 0 29 ((rF s170 0 29) + 1)) 3 10 x1 gg ∧ (∀ (s256 : rS), rWF s256 → (TPRp (sF s170 0 29 ((rF s170 0 29) + 1)) → TPRp s256) → rR s256 7 = rR (sF s170 0 29 ((rF s170 0 29) + 1)) 7 → rF s256 0 10 = rF (sF s170 0 29 ((rF s170 0 29) + 1)) 0 10 → rF s256 0 19 = rF (sF s170 0 29 ((rF s170 0 29) + 1)) 0 19 → rF s256 0 28 = rF (sF s170 0 29 ((rF s170 0 29) + 1)) 0 28 → rF s256 0 29 = rF (sF s170 0 29 ((rF s170 0 29) + 1)) 0 29 → (∀ i, rA s256 1026 i = rA (sF s170 0 29 ((rF s170 0 29) + 1)) 1026 i) → post_X14_note_t (sF s170 0 29 ((rF s170 0 29) + 1)) 3 10 x1 gg s256 → rng (((rF s170 0 29) + 1) + 1) ∧ (inv_X14_readBytes_t_170 σ x1 gg (sF s256 0 29 (((rF s170 0 29) + 1) + 1)) ∧ (mu_X14_readBytes_t_170 σ x1 gg (sF s256 0 29 (((rF s170 0 29) + 1) + 1)) ) < (mu_X14_readBytes_t_170 σ x1 gg s170 )))))) ∧ (¬ v197 = 110 → ((v197 = 116 → ((¬ v197 = 110 → ((¬ v197 = 116 → pre_X14_note_t (sF s170 0 29 ((rF s170 0 29) + 1)) 3 32 x1 gg ∧ (∀ (s256 : rS), rWF s256 → (TPRp (sF s170 0 29 ((rF s170 0 29) + 1)) → TPRp s256) → rR s256 7 = rR (sF s170 0 29 ((rF s170 0 29) + 1)) 7 → rF s256 0 10 = rF (sF s170 0 29 ((rF s170 0 29) + 1)) 0 10 → rF s256 0 19 = rF (sF s170 0 29 ((rF s170 0 29) + 1)) 0 19 → rF s256 0 28 = rF (sF s170 0 29 ((rF s170 0 29) + 1)) 0 28 → rF s256 0 29 = rF (sF s170 0 29 ((rF s170 0 29) + 1)) 0 29 → (∀ i, rA s256 1026 i = rA (sF s170 0 29 ((rF s170 0 29) + 1)) 1026 i) → post_X14_note_t (sF s170 0 29 ((rF s170 0 29) + 1)) 3 32 x1 gg s256 → rng (((rF s170 0 29) + 1) + 1) ∧ (inv_X14_readBytes_t_170 σ x1 gg (sF s256 0 29 (((rF s170 0 29) + 1) + 1)) ∧ (mu_X14_readBytes_t_170 σ x1 gg (sF s256 0 29 (((rF s170 0 29) + 1) + 1)) ) < (mu_X14_readBytes_t_170 σ x1 gg s170 )))) ∧ (v197 = 116 → pre_X14_note_t (sF s170 0 29 ((rF s170 0 29) + 1)) 3 9 x1 gg ∧ (∀ (s256 : rS), rWF s256 → (TPRp (sF s170 0 29 ((rF s170 0 29) + 1)) → TPRp s256) → rR s256 7 = rR (sF s170 0 29 ((rF s170 0 29) + 1)) 7 → rF s256 0 10 = rF (sF s170 0 29 ((rF s170 0 29) + 1)) 0 10 → rF s256 0 19 = rF (sF s170 0 29 ((rF s170 0 29) + 1)) 0 19 → rF s256 0 28 = rF (sF s170 0 29 ((rF s170 0 29) + 1)) 0 28 → rF s256 0 29 = rF (sF s170 0 29 ((rF s170 0 29) + 1)) 0 29 → (∀ i, rA s256 1026 i = rA (sF s170 0 29 ((rF s170 0 29) + 1)) 1026 i) → post_X14_note_t (sF s170 0 29 ((rF s170 0 29) + 1)) 3 9 x1 gg s256 → rng (((rF s170 0 29) + 1) + 1) ∧ (inv_X14_readBytes_t_170 σ x1 gg (sF s256 0 29 (((rF s170 0 29) + 1) + 1)) ∧ (mu_X14_readBytes_t_170 σ x1 gg (sF s256 0 29 (((rF s170 0 29) + 1) + 1)) ) < (mu_X14_readBytes_t_170 σ x1 gg s170 )))))) ∧ (v197 = 110 → pre_X14_note_t (sF s170 0 29 ((rF s170 0 29) + 1)) 3 10 x1 gg ∧ (∀ (s256 : rS), rWF s256 → (TPRp (sF s170 0 29 ((rF s170 0 29) + 1)) → TPRp s256) → rR s256 7 = rR (sF s170 0 29 ((rF s170 0 29) + 1)) 7 → rF s256 0 10 = rF (sF s170 0 29 ((rF s170 0 29) + 1)) 0 10 → rF s256 0 19 = rF (sF s170 0 29 ((rF s170 0 29) + 1)) 0 19 → rF s256 0 28 = rF (sF s170 0 29 ((rF s170 0 29) + 1)) 0 28 → rF s256 0 29 = rF (sF s170 0 29 ((rF s170 0 29) + 1)) 0 29 → (∀ i, rA s256 1026 i = rA (sF s170 0 29 ((rF s170 0 29) + 1)) 1026 i) → post_X14_note_t (sF s170 0 29 ((rF s170 0 29) + 1)) 3 10 x1 gg s256 → rng (((rF s170 0 29) + 1) + 1) ∧ (inv_X14_readBytes_t_170 σ x1 gg (sF s256 0 29 (((rF s170 0 29) + 1) + 1)) ∧ (mu_X14_readBytes_t_170 σ x1 gg (sF s256 0 29 (((rF s170 0 29) + 1) + 1)) ) < (mu_X14_readBytes_t_170 σ x1 gg s170 )))))) ∧ (¬ v197 = 116 → ((v197 = 32 → ((¬ v197 = 110 → ((¬ v197 = 116 → pre_X14_note_t (sF s170 0 29 ((rF s170 0 29) + 1)) 3 32 x1 gg ∧ (∀ (s256 : rS), rWF s256 → (TPRp (sF s170 0 29 ((rF s170 0 29) + 1)) → TPRp s256) → rR s256 7 = rR (sF s170 0 29 ((rF s170 0 29) + 1)) 7 → rF s256 0 10 = rF (sF s170 0 29 ((rF s170 0 29) + 1)) 0 10 → rF s256 0 19 = rF (sF s170 0 29 ((rF s170 0 29) + 1)) 0 19 → rF s256 0 28 = rF (sF s170 0 29 ((rF s170 0 29) + 1)) 0 28 → rF s256 0 29 = rF (sF s170 0 29 ((rF s170 0 29) + 1)) 0 29 → (∀ i, rA s256 1026 i = rA (sF s170 0 29 ((rF s170 0 29) + 1)) 1026 i) → post_X14_note_t (sF s170 0 29 ((rF s170 0 29) + 1)) 3 32 x1 gg s256 → rng (((rF s170 0 29) + 1) + 1) ∧ (inv_X14_readBytes_t_170 σ x1 gg (sF s256 0 29 (((rF s170 0 29) + 1) + 1)) ∧ (mu_X14_readBytes_t_170 σ x1 gg (sF s256 0 29 (((rF s170 0 29) + 1) + 1)) ) < (mu_X14_readBytes_t_170 σ x1 gg s170 )))) ∧ (v197 = 116 → pre_X14_note_t (sF s170 0 29 ((rF s170 0 29) + 1)) 3 9 x1 gg ∧ (∀ (s256 : rS), rWF s256 → (TPRp (sF s170 0 29 ((rF s170 0 29) + 1)) → TPRp s256) → rR s256 7 = rR (sF s170 0 29 ((rF s170 0 29) + 1)) 7 → rF s256 0 10 = rF (sF s170 0 29 ((rF s170 0 29) + 1)) 0 10 → rF s256 0 19 = rF (sF s170 0 29 ((rF s170 0 29) + 1)) 0 19 → rF s256 0 28 = rF (sF s170 0 29 ((rF s170 0 29) + 1)) 0 28 → rF s256 0 29 = rF (sF s170 0 29 ((rF s170 0 29) + 1)) 0 29 → (∀ i, rA s256 1026 i = rA (sF s170 0 29 ((rF s170 0 29) + 1)) 1026 i) → post_X14_note_t (sF s170 0 29 ((rF s170 0 29) + 1)) 3 9 x1 gg s256 → rng (((rF s170 0 29) + 1) + 1) ∧ (inv_X14_readBytes_t_170 σ x1 gg (sF s256 0 29 (((rF s170 0 29) + 1) + 1)) ∧ (mu_X14_readBytes_t_170 σ x1 gg (sF s256 0 29 (((rF s170 0 29) + 1) + 1)) ) < (mu_X14_readBytes_t_170 σ x1 gg s170 )))))) ∧ (v197 = 110 → pre_X14_note_t (sF s170 0 29 ((rF s170 0 29) + 1)) 3 10 x1 gg ∧ (∀ (s256 : rS), rWF s256 → (TPRp (sF s170 0 29 ((rF s170 0 29) + 1)) → TPRp s256) → rR s256 7 = rR (sF s170 0 29 ((rF s170 0 29) + 1)) 7 → rF s256 0 10 = rF (sF s170 0 29 ((rF s170 0 29) + 1)) 0 10 → rF s256 0 19 = rF (sF s170 0 29 ((rF s170 0 29) + 1)) 0 19 → rF s256 0 28 = rF (sF s170 0 29 ((rF s170 0 29) + 1)) 0 28 → rF s256 0 29 = rF (sF s170 0 29 ((rF s170 0 29) + 1)) 0 29 → (∀ i, rA s256 1026 i = rA (sF s170 0 29 ((rF s170 0 29) + 1)) 1026 i) → post_X14_note_t (sF s170 0 29 ((rF s170 0 29) + 1)) 3 10 x1 gg s256 → rng (((rF s170 0 29) + 1) + 1) ∧ (inv_X14_readBytes_t_170 σ x1 gg (sF s256 0 29 (((rF s170 0 29) + 1) + 1)) ∧ (mu_X14_readBytes_t_170 σ x1 gg (sF s256 0 29 (((rF s170 0 29) + 1) + 1)) ) < (mu_X14_readBytes_t_170 σ x1 gg s170 )))))) ∧ (¬ v197 = 32 → pre_X14_place (sF s170 0 29 ((rF s170 0 29) + 1)) ∧ (∀ (v222 : Int), rng v222 → post_X14_place (sF s170 0 29 ((rF s170 0 29) + 1)) v222 → pre_X14_bad (sF s170 0 29 ((rF s170 0 29) + 1)) 1 v222 ∧ (∀ (s225 : rS), rWF s225 → (TPRp (sF s170 0 29 ((rF s170 0 29) + 1)) → TPRp s225) → (WNp (sF s170 0 29 ((rF s170 0 29) + 1)) → WNp s225) → rR s225 7 = rR (sF s170 0 29 ((rF s170 0 29) + 1)) 7 → rF s225 0 19 = rF (sF s170 0 29 ((rF s170 0 29) + 1)) 0 19 → rF s225 0 28 = rF (sF s170 0 29 ((rF s170 0 29) + 1)) 0 28 → rF s225 0 29 = rF (sF s170 0 29 ((rF s170 0 29) + 1)) 0 29 → rF s225 0 38 = rF (sF s170 0 29 ((rF s170 0 29) + 1)) 0 38 → (∀ i, rA s225 1026 i = rA (sF s170 0 29 ((rF s170 0 29) + 1)) 1026 i) → (∀ i, rA s225 1034 i = rA (sF s170 0 29 ((rF s170 0 29) + 1)) 1034 i) → (∀ i, rA s225 1035 i = rA (sF s170 0 29 ((rF s170 0 29) + 1)) 1035 i) → (∀ i, rA s225 1037 i = rA (sF s170 0 29 ((rF s170 0 29) + 1)) 1037 i) → RG (sF s170 0 29 ((rF s170 0 29) + 1)) s225 (rR σ 7) 0 → post_X14_bad (sF s170 0 29 ((rF s170 0 29) + 1)) 1 v222 s225 → Q s225)))))))))))))))))
def VC_X14_readBytes_t_170m (σ : rS) (x1 : Int) (gg : Nat) : Prop := ∀ (s170 : rS), rWF s170 → (TPRp σ → TPRp s170) → rR s170 7 = rR σ 7 → rF s170 0 19 = rF σ 0 19 → rF s170 0 28 = rF σ 0 28 → (∀ i, rA s170 1026 i = rA σ 1026 i) → inv_X14_readBytes_t_170 σ x1 gg s170 → 0 < (mu_X14_readBytes_t_170 σ x1 gg s170 )
def VC_X14_readBytes_t_130 (σ : rS) (x1 : Int) (gg : Nat) (Q : rS → Prop) : Prop := ∀ (s130 : rS), rWF s130 → (TPRp σ → TPRp s130) → rR s130 7 = rR σ 7 → rF s130 0 19 = rF σ 0 19 → rF s130 0 28 = rF σ 0 28 → (∀ i, rA s130 1026 i = rA σ 1026 i) → inv_X14_readBytes_t_130 σ x1 gg s130 → (pre_X14_here s130 ∧ (∀ (v131 : Int), rng v131 → post_X14_here s130 v131 → ((v131 = 32 → (rng (rF s130 0 29) → rng ((rF s130 0 29) + 1) ∧ (inv_X14_readBytes_t_130 σ x1 gg (sF s130 0 29 ((rF s130 0 29) + 1)) ∧ (mu_X14_readBytes_t_130 σ x1 gg (sF s130 0 29 ((rF s130 0 29) + 1)) ) < (mu_X14_readBytes_t_130 σ x1 gg s130 )))) ∧ (¬ v131 = 32 → pre_X14_here s130 ∧ (∀ (v140 : Int), rng v140 → post_X14_here s130 v140 → ((¬ v140 = 9 → pre_X14_note_t s130 20 0 x1 gg ∧ (∀ (s166 : rS), rWF s166 → (TPRp s130 → TPRp s166) → rR s166 7 = rR s130 7 → rF s166 0 10 = rF s130 0 10 → rF s166 0 19 = rF s130 0 19 → rF s166 0 28 = rF s130 0 28 → rF s166 0 29 = rF s130 0 29 → (∀ i, rA s166 1026 i = rA s130 1026 i) → post_X14_note_t s130 20 0 x1 gg s166 → Q s166)) ∧ (v140 = 9 → (rng (rF s130 0 29) → rng ((rF s130 0 29) + 1) ∧ (inv_X14_readBytes_t_130 σ x1 gg (sF s130 0 29 ((rF s130 0 29) + 1)) ∧ (mu_X14_readBytes_t_130 σ x1 gg (sF s130 0 29 ((rF s130 0 29) + 1)) ) < (mu_X14_readBytes_t_130 σ x1 gg s130 ))))))))))
def VC_X14_readBytes_t_130m (σ : rS) (x1 : Int) (gg : Nat) : Prop := ∀ (s130 : rS), rWF s130 → (TPRp σ → TPRp s130) → rR s130 7 = rR σ 7 → rF s130 0 19 = rF σ 0 19 → rF s130 0 28 = rF σ 0 28 → (∀ i, rA s130 1026 i = rA σ 1026 i) → inv_X14_readBytes_t_130 σ x1 gg s130 → 0 < (mu_X14_readBytes_t_130 σ x1 gg s130 )
def VC_X14_readBytes_t_70 (σ : rS) (x1 : Int) (gg : Nat) (Q : rS → Prop) : Prop := ∀ (s70 : rS), rWF s70 → (TPRp σ → TPRp s70) → rR s70 7 = rR σ 7 → rF s70 0 19 = rF σ 0 19 → rF s70 0 28 = rF σ 0 28 → (∀ i, rA s70 1026 i = rA σ 1026 i) → inv_X14_readBytes_t_70 σ x1 gg s70 → (pre_X14_here s70 ∧ (∀ (v71 : Int), rng v71 → post_X14_here s70 v71 → ((v71 = 32 → (rng (rF s70 0 29) → rng ((rF s70 0 29) + 1) ∧ (inv_X14_readBytes_t_70 σ x1 gg (sF s70 0 29 ((rF s70 0 29) + 1)) ∧ (mu_X14_readBytes_t_70 σ x1 gg (sF s70 0 29 ((rF s70 0 29) + 1)) ) < (mu_X14_readBytes_t_70 σ x1 gg s70 )))) ∧ (¬ v71 = 32 → pre_X14_here s70 ∧ (∀ (v80 : Int), rng v80 → post_X14_here s70 v80 → ((¬ v80 = 9 → pre_X14_here s70 ∧ (∀ (v102 : Int), rng v102 → post_X14_here s70 v102 → ((v102 = 10 → (rng (rF s70 0 29) → rng ((rF s70 0 29) + 1) ∧ (inv_X14_readBytes_t_130 σ x1 gg (sF s70 0 29 ((rF s70 0 29) + 1))))) ∧ (¬ v102 = 10 → pre_X14_place s70 ∧ (∀ (v113 : Int), rng v113 → post_X14_place s70 v113 → pre_X14_bad s70 1 v113 ∧ (∀ (s116 : rS), rWF s116 → (TPRp s70 → TPRp s116) → (WNp s70 → WNp s116) → rR s116 7 = rR s70 7 → rF s116 0 19 = rF s70 0 19 → rF s116 0 28 = rF s70 0 28 → rF s116 0 29 = rF s70 0 29 → rF s116 0 38 = rF s70 0 38 → (∀ i, rA s116 1026 i = rA s70 1026 i) → (∀ i, rA s116 1034 i = rA s70 1034 i) → (∀ i, rA s116 1035 i = rA s70 1035 i) → (∀ i, rA s116 1037 i = rA s70 1037 i) → RG s70 s116 (rR σ 7) 0 → post_X14_bad s70 1 v113 s116 → Q s116)))))) ∧ (v80 = 9 → (rng (rF s70 0 29) → rng ((rF s70 0 29) + 1) ∧ (inv_X14_readBytes_t_70 σ x1 gg (sF s70 0 29 ((rF s70 0 29) + 1)) ∧ (mu_X14_readBytes_t_70 σ x1 gg (sF s70 0 29 ((rF s70 0 29) + 1)) ) < (mu_X14_readBytes_t_70 σ x1 gg s70 ))))))))))
def VC_X14_readBytes_t_70m (σ : rS) (x1 : Int) (gg : Nat) : Prop := ∀ (s70 : rS), rWF s70 → (TPRp σ → TPRp s70) → rR s70 7 = rR σ 7 → rF s70 0 19 = rF σ 0 19 → rF s70 0 28 = rF σ 0 28 → (∀ i, rA s70 1026 i = rA σ 1026 i) → inv_X14_readBytes_t_70 σ x1 gg s70 → 0 < (mu_X14_readBytes_t_70 σ x1 gg s70 )
set_option maxHeartbeats 20000000 in
theorem vX14_readBytes_t (σ : rS) (x1 : Int) (gg : Nat) (hwf : rWF σ) (hx1 : rng x1) (hp : pre_X14_readBytes_t σ x1 gg) : VC_X14_readBytes_t σ x1 gg (post_X14_readBytes_t σ x1 gg) := by
  unfold pre_X14_readBytes_t at hp
  obtain ⟨hp_1, hp_2, hp_3, hp_4, hp_5, hp_6, hp_7, hp_8, hp_9, hp_10, hp_11, hp_12, hp_13⟩ := hp
  unfold rng at hx1
  subst hp_1
  unfold VC_X14_readBytes_t
  refine ⟨(by (all_goals (repeat' (first | with_reducible intro _ | with_reducible apply And.intro))); all_goals (first | assumption | trivial | omega | (have zz_ := fz_z (by assumption); omega) | (split <;> omega) | (exact RG.rf) | (exact RWp.z (by omega)) | (exact RWp.mv (by assumption) (by assumption) (by omega)) | (exact RWp.t2 (by assumption) (by assumption) (by assumption) (by assumption) (by decide)) | (exact RG.tr0 (by assumption) (by assumption)) | (exact RWp.t (by assumption) (by assumption) (by assumption) (by assumption) (by decide)) | grind (splits := 20))), ?_⟩
  intro hr_; unfold rng at hr_
  intro hr_; unfold rng at hr_
  refine ⟨(by (try simp only [rng]); (all_goals (repeat' (first | with_reducible intro _ | with_reducible apply And.intro))); all_goals (first | assumption | trivial | omega | (have zz_ := fz_z (by assumption); omega) | (split <;> omega) | (exact RG.rf) | (exact RWp.z (by omega)) | (exact RWp.mv (by assumption) (by assumption) (by omega)) | (exact RWp.t2 (by assumption) (by assumption) (by assumption) (by assumption) (by decide)) | (exact RG.tr0 (by assumption) (by assumption)) | (exact RWp.t (by assumption) (by assumption) (by assumption) (by assumption) (by decide)) | grind (splits := 20))), ?_⟩
  refine ⟨fun c10 => ?_, fun c10 => ?_⟩
  · exact (by (try simp only [inv_X14_readBytes_t_170]); (all_goals (repeat' (first | with_reducible intro _ | with_reducible apply And.intro))); all_goals (first | assumption | trivial | omega | (have zz_ := fz_z (by assumption); omega) | (split <;> omega) | (exact RG.rf) | (exact RWp.z (by omega)) | (exact RWp.mv (by assumption) (by assumption) (by omega)) | (exact RWp.t2 (by assumption) (by assumption) (by assumption) (by assumption) (by decide)) | (exact RG.tr0 (by assumption) (by assumption)) | (exact RWp.t (by assumption) (by assumption) (by assumption) (by assumption) (by decide)) | grind (splits := 20)))
  · refine ⟨(by (all_goals (repeat' (first | with_reducible intro _ | with_reducible apply And.intro))); all_goals (first | assumption | trivial | omega | (have zz_ := fz_z (by assumption); omega) | (split <;> omega) | (exact RG.rf) | (exact RWp.z (by omega)) | (exact RWp.mv (by assumption) (by assumption) (by omega)) | (exact RWp.t2 (by assumption) (by assumption) (by assumption) (by assumption) (by decide)) | (exact RG.tr0 (by assumption) (by assumption)) | (exact RWp.t (by assumption) (by assumption) (by assumption) (by assumption) (by decide)) | grind (splits := 20))), ?_⟩
    intro hr_; unfold rng at hr_
    refine ⟨fun c26 => ?_, fun c26 => ?_⟩
    · exact (by (try simp only [inv_X14_readBytes_t_170]); (all_goals (repeat' (first | with_reducible intro _ | with_reducible apply And.intro))); all_goals (first | assumption | trivial | omega | (have zz_ := fz_z (by assumption); omega) | (split <;> omega) | (exact RG.rf) | (exact RWp.z (by omega)) | (exact RWp.mv (by assumption) (by assumption) (by omega)) | (exact RWp.t2 (by assumption) (by assumption) (by assumption) (by assumption) (by decide)) | (exact RG.tr0 (by assumption) (by assumption)) | (exact RWp.t (by assumption) (by assumption) (by assumption) (by assumption) (by decide)) | grind (splits := 20)))
    · refine ⟨(by (try simp only [rng]); (all_goals (repeat' (first | with_reducible intro _ | with_reducible apply And.intro))); all_goals (first | assumption | trivial | omega | (have zz_ := fz_z (by assumption); omega) | (split <;> omega) | (exact RG.rf) | (exact RWp.z (by omega)) | (exact RWp.mv (by assumption) (by assumption) (by omega)) | (exact RWp.t2 (by assumption) (by assumption) (by assumption) (by assumption) (by decide)) | (exact RG.tr0 (by assumption) (by assumption)) | (exact RWp.t (by assumption) (by assumption) (by assumption) (by assumption) (by decide)) | grind (splits := 20))), ?_⟩
      refine ⟨(by (try simp only [pre_X14_here, reduceIte, and_true, true_and, and_false, false_and, and_self, Nat.reduceEqDiff, fz_sF29, rF_sF, rA_sF, rR_sF, tr_sF, rNMp_sF, PNp_sF, GS_F29, OP_F29, NR_F29, LI_F29, RG_l29, RG_r29, TPRp_sF29, WNp_sF29, VMp_sF29, KYp_sF29, PPp_sF29, WFp_sF29, CCp_sF29]); (all_goals (repeat' (first | with_reducible intro _ | with_reducible apply And.intro))); all_goals (first | assumption | trivial | omega | (have zz_ := fz_z (by assumption); omega) | (split <;> omega) | (exact RG.rf) | (exact RWp.z (by omega)) | (exact RWp.mv (by assumption) (by assumption) (by omega)) | (exact RWp.t2 (by assumption) (by assumption) (by assumption) (by assumption) (by decide)) | (exact RG.tr0 (by assumption) (by assumption)) | (exact RWp.t (by assumption) (by assumption) (by assumption) (by assumption) (by decide)) | grind (splits := 20))), ?_⟩
      intro v40 hv40 q40
      unfold rng at hv40
      unfold post_X14_here at q40
      obtain ⟨q40_1, q40_2⟩ := q40
      (try simp only [reduceIte, and_true, true_and, and_false, false_and, and_self, Nat.reduceEqDiff, fz_sF29, rF_sF, rA_sF, rR_sF, tr_sF, rNMp_sF, PNp_sF, GS_F29, OP_F29, NR_F29, LI_F29, RG_l29, RG_r29, TPRp_sF29, WNp_sF29, VMp_sF29, KYp_sF29, PPp_sF29, WFp_sF29, CCp_sF29] at q40_1 q40_2)
      intro hr_; unfold rng at hr_
      refine ⟨fun c47 => ?_, fun c47 => ?_⟩
      · refine ⟨(by (try simp only [rng, reduceIte, and_true, true_and, and_false, false_and, and_self, Nat.reduceEqDiff, fz_sF29, rF_sF, rA_sF, rR_sF, tr_sF, rNMp_sF, PNp_sF, GS_F29, OP_F29, NR_F29, LI_F29, RG_l29, RG_r29, TPRp_sF29, WNp_sF29, VMp_sF29, KYp_sF29, PPp_sF29, WFp_sF29, CCp_sF29]); (all_goals (repeat' (first | with_reducible intro _ | with_reducible apply And.intro))); all_goals (first | assumption | trivial | omega | (have zz_ := fz_z (by assumption); omega) | (split <;> omega) | (exact RG.rf) | (exact RWp.z (by omega)) | (exact RWp.mv (by assumption) (by assumption) (by omega)) | (exact RWp.t2 (by assumption) (by assumption) (by assumption) (by assumption) (by decide)) | (exact RG.tr0 (by assumption) (by assumption)) | (exact RWp.t (by assumption) (by assumption) (by assumption) (by assumption) (by decide)) | grind (splits := 20))), ?_⟩
        exact (by (try simp only [inv_X14_readBytes_t_70, reduceIte, and_true, true_and, and_false, false_and, and_self, Nat.reduceEqDiff, fz_sF29, rF_sF, rA_sF, rR_sF, tr_sF, rNMp_sF, PNp_sF, GS_F29, OP_F29, NR_F29, LI_F29, RG_l29, RG_r29, TPRp_sF29, WNp_sF29, VMp_sF29, KYp_sF29, PPp_sF29, WFp_sF29, CCp_sF29]); (all_goals (repeat' (first | with_reducible intro _ | with_reducible apply And.intro))); all_goals (first | assumption | trivial | omega | (have zz_ := fz_z (by assumption); omega) | (split <;> omega) | (exact RG.rf) | (exact RWp.z (by omega)) | (exact RWp.mv (by assumption) (by assumption) (by omega)) | (exact RWp.t2 (by assumption) (by assumption) (by assumption) (by assumption) (by decide)) | (exact RG.tr0 (by assumption) (by assumption)) | (exact RWp.t (by assumption) (by assumption) (by assumption) (by assumption) (by decide)) | grind (splits := 20)))
      · refine ⟨(by (try simp only [pre_X14_place, reduceIte, and_true, true_and, and_false, false_and, and_self, Nat.reduceEqDiff, fz_sF29, rF_sF, rA_sF, rR_sF, tr_sF, rNMp_sF, PNp_sF, GS_F29, OP_F29, NR_F29, LI_F29, RG_l29, RG_r29, TPRp_sF29, WNp_sF29, VMp_sF29, KYp_sF29, PPp_sF29, WFp_sF29, CCp_sF29]); (all_goals (repeat' (first | with_reducible intro _ | with_reducible apply And.intro))); all_goals (first | assumption | trivial | omega | (have zz_ := fz_z (by assumption); omega) | (split <;> omega) | (exact RG.rf) | (exact RWp.z (by omega)) | (exact RWp.mv (by assumption) (by assumption) (by omega)) | (exact RWp.t2 (by assumption) (by assumption) (by assumption) (by assumption) (by decide)) | (exact RG.tr0 (by assumption) (by assumption)) | (exact RWp.t (by assumption) (by assumption) (by assumption) (by assumption) (by decide)) | grind (splits := 20))), ?_⟩
        intro v53 hv53 q53
        unfold rng at hv53
        unfold post_X14_place at q53
        obtain ⟨q53_1, q53_2⟩ := q53
        (try simp only [reduceIte, and_true, true_and, and_false, false_and, and_self, Nat.reduceEqDiff, fz_sF29, rF_sF, rA_sF, rR_sF, tr_sF, rNMp_sF, PNp_sF, GS_F29, OP_F29, NR_F29, LI_F29, RG_l29, RG_r29, TPRp_sF29, WNp_sF29, VMp_sF29, KYp_sF29, PPp_sF29, WFp_sF29, CCp_sF29] at q53_1 q53_2)
        refine ⟨(by (try simp only [pre_X14_bad, reduceIte, and_true, true_and, and_false, false_and, and_self, Nat.reduceEqDiff, fz_sF29, rF_sF, rA_sF, rR_sF, tr_sF, rNMp_sF, PNp_sF, GS_F29, OP_F29, NR_F29, LI_F29, RG_l29, RG_r29, TPRp_sF29, WNp_sF29, VMp_sF29, KYp_sF29, PPp_sF29, WFp_sF29, CCp_sF29]); (all_goals (repeat' (first | with_reducible intro _ | with_reducible apply And.intro))); all_goals (first | assumption | trivial | omega | (have zz_ := fz_z (by assumption); omega) | (split <;> omega) | (exact RG.rf) | (exact RWp.z (by omega)) | (exact RWp.mv (by assumption) (by assumption) (by omega)) | (exact RWp.t2 (by assumption) (by assumption) (by assumption) (by assumption) (by decide)) | (exact RG.tr0 (by assumption) (by assumption)) | (exact RWp.t (by assumption) (by assumption) (by assumption) (by assumption) (by decide)) | grind (splits := 20))), ?_⟩
        intro s56 Ws56 e56_0 e56_1 e56_2 e56_3 e56_4 e56_5 e56_6 e56_7 e56_8 e56_9 e56_10 R56 q56
        unfold post_X14_bad at q56
        obtain ⟨q56_1, q56_2⟩ := q56
        (try simp only [reduceIte, and_true, true_and, and_false, false_and, and_self, Nat.reduceEqDiff, fz_sF29, rF_sF, rA_sF, rR_sF, tr_sF, rNMp_sF, PNp_sF, GS_F29, OP_F29, NR_F29, LI_F29, RG_l29, RG_r29, TPRp_sF29, WNp_sF29, VMp_sF29, KYp_sF29, PPp_sF29, WFp_sF29, CCp_sF29] at q56_1 q56_2 e56_0 e56_1 e56_2 e56_3 e56_4 e56_5 e56_6 e56_7 e56_8 e56_9 e56_10 R56)
        have Ks56 : rR s56 7 = rR σ 7 := by first | assumption | ((try simp only [rR_sF, rR_sA, rR_sT, rR_sL] at e56_0 e56_1 e56_2 e56_3 e56_4 e56_5 e56_6 e56_7 e56_8 e56_9 e56_10 R56); omega)
        exact (by (try simp only [post_X14_readBytes_t, Ks56]); (all_goals (repeat' (first | with_reducible intro _ | with_reducible apply And.intro))); all_goals (first | assumption | trivial | omega | (have zz_ := fz_z (by assumption); omega) | (split <;> omega) | (exact RG.rf) | (exact RWp.z (by omega)) | (exact RWp.mv (by assumption) (by assumption) (by omega)) | (exact RWp.t2 (by assumption) (by assumption) (by assumption) (by assumption) (by decide)) | (exact RG.tr0 (by assumption) (by assumption)) | (exact RWp.t (by assumption) (by assumption) (by assumption) (by assumption) (by decide)) | grind (splits := 20)))
set_option maxHeartbeats 20000000 in
theorem vX14_readBytes_t_170 (σ : rS) (x1 : Int) (gg : Nat) (hwf : rWF σ) (hx1 : rng x1) (hp : pre_X14_readBytes_t σ x1 gg) : VC_X14_readBytes_t_170 σ x1 gg (post_X14_readBytes_t σ x1 gg) := by
  unfold pre_X14_readBytes_t at hp
  obtain ⟨hp_1, hp_2, hp_3, hp_4, hp_5, hp_6, hp_7, hp_8, hp_9, hp_10, hp_11, hp_12, hp_13⟩ := hp
  unfold rng at hx1
  subst hp_1
  unfold VC_X14_readBytes_t_170
  intro s170 Ws170 e170_0 e170_1 e170_2 e170_3 e170_4 I170
  have Ks170 : rR s170 7 = rR σ 7 := by omega
  unfold inv_X14_readBytes_t_170 at I170
  obtain ⟨I170_1, I170_2, I170_3, I170_4, I170_5, I170_6, I170_7, I170_8⟩ := I170
  (try simp only [Ks170] at I170_1 I170_2 I170_3 I170_4 I170_5 I170_6 I170_7 I170_8)
  refine ⟨(by (try simp only [pre_X14_here, Ks170]); (all_goals (repeat' (first | with_reducible intro _ | with_reducible apply And.intro))); all_goals (first | assumption | trivial | omega | (have zz_ := fz_z (by assumption); omega) | (split <;> omega) | (exact RG.rf) | (exact RWp.z (by omega)) | (exact RWp.mv (by assumption) (by assumption) (by omega)) | (exact RWp.t2 (by assumption) (by assumption) (by assumption) (by assumption) (by decide)) | (exact RG.tr0 (by assumption) (by assumption)) | (exact RWp.t (by assumption) (by assumption) (by assumption) (by assumption) (by decide)) | grind (splits := 20))), ?_⟩
  intro v171 hv171 q171
  unfold rng at hv171
  unfold post_X14_here at q171
  obtain ⟨q171_1, q171_2⟩ := q171
  (try simp only [Ks170] at q171_1 q171_2)
  refine ⟨fun c176 => ?_, fun c176 => ?_⟩
  · refine ⟨(by (try simp only [pre_X14_here, Ks170]); (all_goals (repeat' (first | with_reducible intro _ | with_reducible apply And.intro))); all_goals (first | assumption | trivial | omega | (have zz_ := fz_z (by assumption); omega) | (split <;> omega) | (exact RG.rf) | (exact RWp.z (by omega)) | (exact RWp.mv (by assumption) (by assumption) (by omega)) | (exact RWp.t2 (by assumption) (by assumption) (by assumption) (by assumption) (by decide)) | (exact RG.tr0 (by assumption) (by assumption)) | (exact RWp.t (by assumption) (by assumption) (by assumption) (by assumption) (by decide)) | grind (splits := 20))), ?_⟩
    intro v273 hv273 q273
    unfold rng at hv273
    unfold post_X14_here at q273
    obtain ⟨q273_1, q273_2⟩ := q273
    (try simp only [Ks170] at q273_1 q273_2)
    intro hr_; unfold rng at hr_
    refine ⟨fun c280 => ?_, fun c280 => ?_⟩
    · refine ⟨(by (try simp only [pre_X14_place, Ks170]); (all_goals (repeat' (first | with_reducible intro _ | with_reducible apply And.intro))); all_goals (first | assumption | trivial | omega | (have zz_ := fz_z (by assumption); omega) | (split <;> omega) | (exact RG.rf) | (exact RWp.z (by omega)) | (exact RWp.mv (by assumption) (by assumption) (by omega)) | (exact RWp.t2 (by assumption) (by assumption) (by assumption) (by assumption) (by decide)) | (exact RG.tr0 (by assumption) (by assumption)) | (exact RWp.t (by assumption) (by assumption) (by assumption) (by assumption) (by decide)) | grind (splits := 20))), ?_⟩
      intro v299 hv299 q299
      unfold rng at hv299
      unfold post_X14_place at q299
      obtain ⟨q299_1, q299_2⟩ := q299
      (try simp only [Ks170] at q299_1 q299_2)
      refine ⟨(by (try simp only [pre_X14_bad, Ks170]); (all_goals (repeat' (first | with_reducible intro _ | with_reducible apply And.intro))); all_goals (first | assumption | trivial | omega | (have zz_ := fz_z (by assumption); omega) | (split <;> omega) | (exact RG.rf) | (exact RWp.z (by omega)) | (exact RWp.mv (by assumption) (by assumption) (by omega)) | (exact RWp.t2 (by assumption) (by assumption) (by assumption) (by assumption) (by decide)) | (exact RG.tr0 (by assumption) (by assumption)) | (exact RWp.t (by assumption) (by assumption) (by assumption) (by assumption) (by decide)) | grind (splits := 20))), ?_⟩
      intro s302 Ws302 e302_0 e302_1 e302_2 e302_3 e302_4 e302_5 e302_6 e302_7 e302_8 e302_9 e302_10 R302 q302
      unfold post_X14_bad at q302
      obtain ⟨q302_1, q302_2⟩ := q302
      (try simp only [Ks170] at q302_1 q302_2 e302_0 e302_1 e302_2 e302_3 e302_4 e302_5 e302_6 e302_7 e302_8 e302_9 e302_10 R302)
      have Ks302 : rR s302 7 = rR σ 7 := by first | assumption | ((try simp only [rR_sF, rR_sA, rR_sT, rR_sL] at e302_0 e302_1 e302_2 e302_3 e302_4 e302_5 e302_6 e302_7 e302_8 e302_9 e302_10 R302); omega)
      exact (by (try simp only [post_X14_readBytes_t, Ks302]); (all_goals (repeat' (first | with_reducible intro _ | with_reducible apply And.intro))); all_goals (first | assumption | trivial | omega | (have zz_ := fz_z (by assumption); omega) | (split <;> omega) | (exact RG.rf) | (exact RWp.z (by omega)) | (exact RWp.mv (by assumption) (by assumption) (by omega)) | (exact RWp.t2 (by assumption) (by assumption) (by assumption) (by assumption) (by decide)) | (exact RG.tr0 (by assumption) (by assumption)) | (exact RWp.t (by assumption) (by assumption) (by assumption) (by assumption) (by decide)) | grind (splits := 20)))
    · intro hr_; unfold rng at hr_
      refine ⟨(by (try simp only [rng, Ks170]); (all_goals (repeat' (first | with_reducible intro _ | with_reducible apply And.intro))); all_goals (first | assumption | trivial | omega | (have zz_ := fz_z (by assumption); omega) | (split <;> omega) | (exact RG.rf) | (exact RWp.z (by omega)) | (exact RWp.mv (by assumption) (by assumption) (by omega)) | (exact RWp.t2 (by assumption) (by assumption) (by assumption) (by assumption) (by decide)) | (exact RG.tr0 (by assumption) (by assumption)) | (exact RWp.t (by assumption) (by assumption) (by assumption) (by assumption) (by decide)) | grind (splits := 20))), ?_⟩
      exact (by (try simp only [post_X14_readBytes_t, reduceIte, and_true, true_and, and_false, false_and, and_self, Nat.reduceEqDiff, fz_sF29, rF_sF, rA_sF, rR_sF, tr_sF, rNMp_sF, PNp_sF, GS_F29, OP_F29, NR_F29, LI_F29, RG_l29, RG_r29, TPRp_sF29, WNp_sF29, VMp_sF29, KYp_sF29, PPp_sF29, WFp_sF29, CCp_sF29, Ks170]); (all_goals (repeat' (first | with_reducible intro _ | with_reducible apply And.intro))); all_goals (first | assumption | trivial | omega | (have zz_ := fz_z (by assumption); omega) | (split <;> omega) | (exact RG.rf) | (exact RWp.z (by omega)) | (exact RWp.mv (by assumption) (by assumption) (by omega)) | (exact RWp.t2 (by assumption) (by assumption) (by assumption) (by assumption) (by decide)) | (exact RG.tr0 (by assumption) (by assumption)) | (exact RWp.t (by assumption) (by assumption) (by assumption) (by assumption) (by decide)) | grind (splits := 20)))
  · intro hr_; unfold rng at hr_
    refine ⟨fun c183 => ?_, fun c183 => ?_⟩
    · refine ⟨(by (try simp only [pre_X14_here, Ks170]); (all_goals (repeat' (first | with_reducible intro _ | with_reducible apply And.intro))); all_goals (first | assumption | trivial | omega | (have zz_ := fz_z (by assumption); omega) | (split <;> omega) | (exact RG.rf) | (exact RWp.z (by omega)) | (exact RWp.mv (by assumption) (by assumption) (by omega)) | (exact RWp.t2 (by assumption) (by assumption) (by assumption) (by assumption) (by decide)) | (exact RG.tr0 (by assumption) (by assumption)) | (exact RWp.t (by assumption) (by assumption) (by assumption) (by assumption) (by decide)) | grind (splits := 20))), ?_⟩
      intro v273 hv273 q273
      unfold rng at hv273
      unfold post_X14_here at q273
      obtain ⟨q273_1, q273_2⟩ := q273
      (try simp only [Ks170] at q273_1 q273_2)
      intro hr_; unfold rng at hr_
      refine ⟨fun c280 => ?_, fun c280 => ?_⟩
      · refine ⟨(by (try simp only [pre_X14_place, Ks170]); (all_goals (repeat' (first | with_reducible intro _ | with_reducible apply And.intro))); all_goals (first | assumption | trivial | omega | (have zz_ := fz_z (by assumption); omega) | (split <;> omega) | (exact RG.rf) | (exact RWp.z (by omega)) | (exact RWp.mv (by assumption) (by assumption) (by omega)) | (exact RWp.t2 (by assumption) (by assumption) (by assumption) (by assumption) (by decide)) | (exact RG.tr0 (by assumption) (by assumption)) | (exact RWp.t (by assumption) (by assumption) (by assumption) (by assumption) (by decide)) | grind (splits := 20))), ?_⟩
        intro v299 hv299 q299
        unfold rng at hv299
        unfold post_X14_place at q299
        obtain ⟨q299_1, q299_2⟩ := q299
        (try simp only [Ks170] at q299_1 q299_2)
        refine ⟨(by (try simp only [pre_X14_bad, Ks170]); (all_goals (repeat' (first | with_reducible intro _ | with_reducible apply And.intro))); all_goals (first | assumption | trivial | omega | (have zz_ := fz_z (by assumption); omega) | (split <;> omega) | (exact RG.rf) | (exact RWp.z (by omega)) | (exact RWp.mv (by assumption) (by assumption) (by omega)) | (exact RWp.t2 (by assumption) (by assumption) (by assumption) (by assumption) (by decide)) | (exact RG.tr0 (by assumption) (by assumption)) | (exact RWp.t (by assumption) (by assumption) (by assumption) (by assumption) (by decide)) | grind (splits := 20))), ?_⟩
        intro s302 Ws302 e302_0 e302_1 e302_2 e302_3 e302_4 e302_5 e302_6 e302_7 e302_8 e302_9 e302_10 R302 q302
        unfold post_X14_bad at q302
        obtain ⟨q302_1, q302_2⟩ := q302
        (try simp only [Ks170] at q302_1 q302_2 e302_0 e302_1 e302_2 e302_3 e302_4 e302_5 e302_6 e302_7 e302_8 e302_9 e302_10 R302)
        have Ks302 : rR s302 7 = rR σ 7 := by first | assumption | ((try simp only [rR_sF, rR_sA, rR_sT, rR_sL] at e302_0 e302_1 e302_2 e302_3 e302_4 e302_5 e302_6 e302_7 e302_8 e302_9 e302_10 R302); omega)
        exact (by (try simp only [post_X14_readBytes_t, Ks302]); (all_goals (repeat' (first | with_reducible intro _ | with_reducible apply And.intro))); all_goals (first | assumption | trivial | omega | (have zz_ := fz_z (by assumption); omega) | (split <;> omega) | (exact RG.rf) | (exact RWp.z (by omega)) | (exact RWp.mv (by assumption) (by assumption) (by omega)) | (exact RWp.t2 (by assumption) (by assumption) (by assumption) (by assumption) (by decide)) | (exact RG.tr0 (by assumption) (by assumption)) | (exact RWp.t (by assumption) (by assumption) (by assumption) (by assumption) (by decide)) | grind (splits := 20)))
      · intro hr_; unfold rng at hr_
        refine ⟨(by (try simp only [rng, Ks170]); (all_goals (repeat' (first | with_reducible intro _ | with_reducible apply And.intro))); all_goals (first | assumption | trivial | omega | (have zz_ := fz_z (by assumption); omega) | (split <;> omega) | (exact RG.rf) | (exact RWp.z (by omega)) | (exact RWp.mv (by assumption) (by assumption) (by omega)) | (exact RWp.t2 (by assumption) (by assumption) (by assumption) (by assumption) (by decide)) | (exact RG.tr0 (by assumption) (by assumption)) | (exact RWp.t (by assumption) (by assumption) (by assumption) (by assumption) (by decide)) | grind (splits := 20))), ?_⟩
        exact (by (try simp only [post_X14_readBytes_t, reduceIte, and_true, true_and, and_false, false_and, and_self, Nat.reduceEqDiff, fz_sF29, rF_sF, rA_sF, rR_sF, tr_sF, rNMp_sF, PNp_sF, GS_F29, OP_F29, NR_F29, LI_F29, RG_l29, RG_r29, TPRp_sF29, WNp_sF29, VMp_sF29, KYp_sF29, PPp_sF29, WFp_sF29, CCp_sF29, Ks170]); (all_goals (repeat' (first | with_reducible intro _ | with_reducible apply And.intro))); all_goals (first | assumption | trivial | omega | (have zz_ := fz_z (by assumption); omega) | (split <;> omega) | (exact RG.rf) | (exact RWp.z (by omega)) | (exact RWp.mv (by assumption) (by assumption) (by omega)) | (exact RWp.t2 (by assumption) (by assumption) (by assumption) (by assumption) (by decide)) | (exact RG.tr0 (by assumption) (by assumption)) | (exact RWp.t (by assumption) (by assumption) (by assumption) (by assumption) (by decide)) | grind (splits := 20)))
    · intro hr_; unfold rng at hr_
      refine ⟨(by (try simp only [rng, Ks170]); (all_goals (repeat' (first | with_reducible intro _ | with_reducible apply And.intro))); all_goals (first | assumption | trivial | omega | (have zz_ := fz_z (by assumption); omega) | (split <;> omega) | (exact RG.rf) | (exact RWp.z (by omega)) | (exact RWp.mv (by assumption) (by assumption) (by omega)) | (exact RWp.t2 (by assumption) (by assumption) (by assumption) (by assumption) (by decide)) | (exact RG.tr0 (by assumption) (by assumption)) | (exact RWp.t (by assumption) (by assumption) (by assumption) (by assumption) (by decide)) | grind (splits := 20))), ?_⟩
      refine ⟨(by (try simp only [pre_X14_here, reduceIte, and_true, true_and, and_false, false_and, and_self, Nat.reduceEqDiff, fz_sF29, rF_sF, rA_sF, rR_sF, tr_sF, rNMp_sF, PNp_sF, GS_F29, OP_F29, NR_F29, LI_F29, RG_l29, RG_r29, TPRp_sF29, WNp_sF29, VMp_sF29, KYp_sF29, PPp_sF29, WFp_sF29, CCp_sF29, Ks170]); (all_goals (repeat' (first | with_reducible intro _ | with_reducible apply And.intro))); all_goals (first | assumption | trivial | omega | (have zz_ := fz_z (by assumption); omega) | (split <;> omega) | (exact RG.rf) | (exact RWp.z (by omega)) | (exact RWp.mv (by assumption) (by assumption) (by omega)) | (exact RWp.t2 (by assumption) (by assumption) (by assumption) (by assumption) (by decide)) | (exact RG.tr0 (by assumption) (by assumption)) | (exact RWp.t (by assumption) (by assumption) (by assumption) (by assumption) (by decide)) | grind (splits := 20))), ?_⟩
      intro v197 hv197 q197
      unfold rng at hv197
      unfold post_X14_here at q197
      obtain ⟨q197_1, q197_2⟩ := q197
      (try simp only [reduceIte, and_true, true_and, and_false, false_and, and_self, Nat.reduceEqDiff, fz_sF29, rF_sF, rA_sF, rR_sF, tr_sF, rNMp_sF, PNp_sF, GS_F29, OP_F29, NR_F29, LI_F29, RG_l29, RG_r29, TPRp_sF29, WNp_sF29, VMp_sF29, KYp_sF29, PPp_sF29, WFp_sF29, CCp_sF29, Ks170] at q197_1 q197_2)
      refine ⟨fun c204 => ?_, fun c204 => ?_⟩
      · refine ⟨fun c234 => ?_, fun c234 => ?_⟩
        · refine ⟨fun c245 => ?_, fun c245 => ?_⟩
          · refine ⟨(by (try simp only [pre_X14_note_t, reduceIte, and_true, true_and, and_false, false_and, and_self, Nat.reduceEqDiff, fz_sF29, rF_sF, rA_sF, rR_sF, tr_sF, rNMp_sF, PNp_sF, GS_F29, OP_F29, NR_F29, LI_F29, RG_l29, RG_r29, TPRp_sF29, WNp_sF29, VMp_sF29, KYp_sF29, PPp_sF29, WFp_sF29, CCp_sF29, Ks170]); (all_goals (repeat' (first | with_reducible intro _ | with_reducible apply And.intro))); all_goals (first | assumption | trivial | omega | (have zz_ := fz_z (by assumption); omega) | (split <;> omega) | (exact RG.rf) | (exact RWp.z (by omega)) | (exact RWp.mv (by assumption) (by assumption) (by omega)) | (exact RWp.t2 (by assumption) (by assumption) (by assumption) (by assumption) (by decide)) | (exact RG.tr0 (by assumption) (by assumption)) | (exact RWp.t (by assumption) (by assumption) (by assumption) (by assumption) (by decide)) | grind (splits := 20))), ?_⟩
            intro s256 Ws256 e256_0 e256_1 e256_2 e256_3 e256_4 e256_5 e256_6 q256
            unfold post_X14_note_t at q256
            obtain ⟨q256_1, q256_2, q256_3, q256_4, q256_5, q256_6, q256_7⟩ := q256
            (try simp only [reduceIte, and_true, true_and, and_false, false_and, and_self, Nat.reduceEqDiff, fz_sF29, rF_sF, rA_sF, rR_sF, tr_sF, rNMp_sF, PNp_sF, GS_F29, OP_F29, NR_F29, LI_F29, RG_l29, RG_r29, TPRp_sF29, WNp_sF29, VMp_sF29, KYp_sF29, PPp_sF29, WFp_sF29, CCp_sF29, Ks170] at q256_1 q256_2 q256_3 q256_4 q256_5 q256_6 q256_7 e256_0 e256_1 e256_2 e256_3 e256_4 e256_5 e256_6)
            have Ks256 : rR s256 7 = rR σ 7 := by first | assumption | ((try simp only [rR_sF, rR_sA, rR_sT, rR_sL] at e256_0 e256_1 e256_2 e256_3 e256_4 e256_5 e256_6); omega)
            refine ⟨(by (try simp only [rng, Ks256]); (all_goals (repeat' (first | with_reducible intro _ | with_reducible apply And.intro))); all_goals (first | assumption | trivial | omega | (have zz_ := fz_z (by assumption); omega) | (split <;> omega) | (exact RG.rf) | (exact RWp.z (by omega)) | (exact RWp.mv (by assumption) (by assumption) (by omega)) | (exact RWp.t2 (by assumption) (by assumption) (by assumption) (by assumption) (by decide)) | (exact RG.tr0 (by assumption) (by assumption)) | (exact RWp.t (by assumption) (by assumption) (by assumption) (by assumption) (by decide)) | grind (splits := 20))), ?_⟩
            exact (by (try simp only [inv_X14_readBytes_t_170, mu_X14_readBytes_t_170, mu_X14_readBytes_t_170, reduceIte, and_true, true_and, and_false, false_and, and_self, Nat.reduceEqDiff, fz_sF29, rF_sF, rA_sF, rR_sF, tr_sF, rNMp_sF, PNp_sF, GS_F29, OP_F29, NR_F29, LI_F29, RG_l29, RG_r29, TPRp_sF29, WNp_sF29, VMp_sF29, KYp_sF29, PPp_sF29, WFp_sF29, CCp_sF29, Ks256]); (all_goals (repeat' (first | with_reducible intro _ | with_reducible apply And.intro))); all_goals (first | assumption | trivial | omega | (have zz_ := fz_z (by assumption); omega) | (split <;> omega) | (exact RG.rf) | (exact RWp.z (by omega)) | (exact RWp.mv (by assumption) (by assumption) (by omega)) | (exact RWp.t2 (by assumption) (by assumption) (by assumption) (by assumption) (by decide)) | (exact RG.tr0 (by assumption) (by assumption)) | (exact RWp.t (by assumption) (by assumption) (by assumption) (by assumption) (by decide)) | grind (splits := 20)))
          · refine ⟨(by (try simp only [pre_X14_note_t, reduceIte, and_true, true_and, and_false, false_and, and_self, Nat.reduceEqDiff, fz_sF29, rF_sF, rA_sF, rR_sF, tr_sF, rNMp_sF, PNp_sF, GS_F29, OP_F29, NR_F29, LI_F29, RG_l29, RG_r29, TPRp_sF29, WNp_sF29, VMp_sF29, KYp_sF29, PPp_sF29, WFp_sF29, CCp_sF29, Ks170]); (all_goals (repeat' (first | with_reducible intro _ | with_reducible apply And.intro))); all_goals (first | assumption | trivial | omega | (have zz_ := fz_z (by assumption); omega) | (split <;> omega) | (exact RG.rf) | (exact RWp.z (by omega)) | (exact RWp.mv (by assumption) (by assumption) (by omega)) | (exact RWp.t2 (by assumption) (by assumption) (by assumption) (by assumption) (by decide)) | (exact RG.tr0 (by assumption) (by assumption)) | (exact RWp.t (by assumption) (by assumption) (by assumption) (by assumption) (by decide)) | grind (splits := 20))), ?_⟩
            intro s256 Ws256 e256_0 e256_1 e256_2 e256_3 e256_4 e256_5 e256_6 q256
            unfold post_X14_note_t at q256
            obtain ⟨q256_1, q256_2, q256_3, q256_4, q256_5, q256_6, q256_7⟩ := q256
            (try simp only [reduceIte, and_true, true_and, and_false, false_and, and_self, Nat.reduceEqDiff, fz_sF29, rF_sF, rA_sF, rR_sF, tr_sF, rNMp_sF, PNp_sF, GS_F29, OP_F29, NR_F29, LI_F29, RG_l29, RG_r29, TPRp_sF29, WNp_sF29, VMp_sF29, KYp_sF29, PPp_sF29, WFp_sF29, CCp_sF29, Ks170] at q256_1 q256_2 q256_3 q256_4 q256_5 q256_6 q256_7 e256_0 e256_1 e256_2 e256_3 e256_4 e256_5 e256_6)
            have Ks256 : rR s256 7 = rR σ 7 := by first | assumption | ((try simp only [rR_sF, rR_sA, rR_sT, rR_sL] at e256_0 e256_1 e256_2 e256_3 e256_4 e256_5 e256_6); omega)
            refine ⟨(by (try simp only [rng, Ks256]); (all_goals (repeat' (first | with_reducible intro _ | with_reducible apply And.intro))); all_goals (first | assumption | trivial | omega | (have zz_ := fz_z (by assumption); omega) | (split <;> omega) | (exact RG.rf) | (exact RWp.z (by omega)) | (exact RWp.mv (by assumption) (by assumption) (by omega)) | (exact RWp.t2 (by assumption) (by assumption) (by assumption) (by assumption) (by decide)) | (exact RG.tr0 (by assumption) (by assumption)) | (exact RWp.t (by assumption) (by assumption) (by assumption) (by assumption) (by decide)) | grind (splits := 20))), ?_⟩
            exact (by (try simp only [inv_X14_readBytes_t_170, mu_X14_readBytes_t_170, mu_X14_readBytes_t_170, reduceIte, and_true, true_and, and_false, false_and, and_self, Nat.reduceEqDiff, fz_sF29, rF_sF, rA_sF, rR_sF, tr_sF, rNMp_sF, PNp_sF, GS_F29, OP_F29, NR_F29, LI_F29, RG_l29, RG_r29, TPRp_sF29, WNp_sF29, VMp_sF29, KYp_sF29, PPp_sF29, WFp_sF29, CCp_sF29, Ks256]); (all_goals (repeat' (first | with_reducible intro _ | with_reducible apply And.intro))); all_goals (first | assumption | trivial | omega | (have zz_ := fz_z (by assumption); omega) | (split <;> omega) | (exact RG.rf) | (exact RWp.z (by omega)) | (exact RWp.mv (by assumption) (by assumption) (by omega)) | (exact RWp.t2 (by assumption) (by assumption) (by assumption) (by assumption) (by decide)) | (exact RG.tr0 (by assumption) (by assumption)) | (exact RWp.t (by assumption) (by assumption) (by assumption) (by assumption) (by decide)) | grind (splits := 20)))
        · refine ⟨(by (try simp only [pre_X14_note_t, reduceIte, and_true, true_and, and_false, false_and, and_self, Nat.reduceEqDiff, fz_sF29, rF_sF, rA_sF, rR_sF, tr_sF, rNMp_sF, PNp_sF, GS_F29, OP_F29, NR_F29, LI_F29, RG_l29, RG_r29, TPRp_sF29, WNp_sF29, VMp_sF29, KYp_sF29, PPp_sF29, WFp_sF29, CCp_sF29, Ks170]); (all_goals (repeat' (first | with_reducible intro _ | with_reducible apply And.intro))); all_goals (first | assumption | trivial | omega | (have zz_ := fz_z (by assumption); omega) | (split <;> omega) | (exact RG.rf) | (exact RWp.z (by omega)) | (exact RWp.mv (by assumption) (by assumption) (by omega)) | (exact RWp.t2 (by assumption) (by assumption) (by assumption) (by assumption) (by decide)) | (exact RG.tr0 (by assumption) (by assumption)) | (exact RWp.t (by assumption) (by assumption) (by assumption) (by assumption) (by decide)) | grind (splits := 20))), ?_⟩
          intro s256 Ws256 e256_0 e256_1 e256_2 e256_3 e256_4 e256_5 e256_6 q256
          unfold post_X14_note_t at q256
          obtain ⟨q256_1, q256_2, q256_3, q256_4, q256_5, q256_6, q256_7⟩ := q256
          (try simp only [reduceIte, and_true, true_and, and_false, false_and, and_self, Nat.reduceEqDiff, fz_sF29, rF_sF, rA_sF, rR_sF, tr_sF, rNMp_sF, PNp_sF, GS_F29, OP_F29, NR_F29, LI_F29, RG_l29, RG_r29, TPRp_sF29, WNp_sF29, VMp_sF29, KYp_sF29, PPp_sF29, WFp_sF29, CCp_sF29, Ks170] at q256_1 q256_2 q256_3 q256_4 q256_5 q256_6 q256_7 e256_0 e256_1 e256_2 e256_3 e256_4 e256_5 e256_6)
          have Ks256 : rR s256 7 = rR σ 7 := by first | assumption | ((try simp only [rR_sF, rR_sA, rR_sT, rR_sL] at e256_0 e256_1 e256_2 e256_3 e256_4 e256_5 e256_6); omega)
          refine ⟨(by (try simp only [rng, Ks256]); (all_goals (repeat' (first | with_reducible intro _ | with_reducible apply And.intro))); all_goals (first | assumption | trivial | omega | (have zz_ := fz_z (by assumption); omega) | (split <;> omega) | (exact RG.rf) | (exact RWp.z (by omega)) | (exact RWp.mv (by assumption) (by assumption) (by omega)) | (exact RWp.t2 (by assumption) (by assumption) (by assumption) (by assumption) (by decide)) | (exact RG.tr0 (by assumption) (by assumption)) | (exact RWp.t (by assumption) (by assumption) (by assumption) (by assumption) (by decide)) | grind (splits := 20))), ?_⟩
          exact (by (try simp only [inv_X14_readBytes_t_170, mu_X14_readBytes_t_170, mu_X14_readBytes_t_170, reduceIte, and_true, true_and, and_false, false_and, and_self, Nat.reduceEqDiff, fz_sF29, rF_sF, rA_sF, rR_sF, tr_sF, rNMp_sF, PNp_sF, GS_F29, OP_F29, NR_F29, LI_F29, RG_l29, RG_r29, TPRp_sF29, WNp_sF29, VMp_sF29, KYp_sF29, PPp_sF29, WFp_sF29, CCp_sF29, Ks256]); (all_goals (repeat' (first | with_reducible intro _ | with_reducible apply And.intro))); all_goals (first | assumption | trivial | omega | (have zz_ := fz_z (by assumption); omega) | (split <;> omega) | (exact RG.rf) | (exact RWp.z (by omega)) | (exact RWp.mv (by assumption) (by assumption) (by omega)) | (exact RWp.t2 (by assumption) (by assumption) (by assumption) (by assumption) (by decide)) | (exact RG.tr0 (by assumption) (by assumption)) | (exact RWp.t (by assumption) (by assumption) (by assumption) (by assumption) (by decide)) | grind (splits := 20)))
      · refine ⟨fun c210 => ?_, fun c210 => ?_⟩
        · refine ⟨fun c234 => ?_, fun c234 => ?_⟩
          · refine ⟨fun c245 => ?_, fun c245 => ?_⟩
            · refine ⟨(by (try simp only [pre_X14_note_t, reduceIte, and_true, true_and, and_false, false_and, and_self, Nat.reduceEqDiff, fz_sF29, rF_sF, rA_sF, rR_sF, tr_sF, rNMp_sF, PNp_sF, GS_F29, OP_F29, NR_F29, LI_F29, RG_l29, RG_r29, TPRp_sF29, WNp_sF29, VMp_sF29, KYp_sF29, PPp_sF29, WFp_sF29, CCp_sF29, Ks170]); (all_goals (repeat' (first | with_reducible intro _ | with_reducible apply And.intro))); all_goals (first | assumption | trivial | omega | (have zz_ := fz_z (by assumption); omega) | (split <;> omega) | (exact RG.rf) | (exact RWp.z (by omega)) | (exact RWp.mv (by assumption) (by assumption) (by omega)) | (exact RWp.t2 (by assumption) (by assumption) (by assumption) (by assumption) (by decide)) | (exact RG.tr0 (by assumption) (by assumption)) | (exact RWp.t (by assumption) (by assumption) (by assumption) (by assumption) (by decide)) | grind (splits := 20))), ?_⟩
              intro s256 Ws256 e256_0 e256_1 e256_2 e256_3 e256_4 e256_5 e256_6 q256
              unfold post_X14_note_t at q256
              obtain ⟨q256_1, q256_2, q256_3, q256_4, q256_5, q256_6, q256_7⟩ := q256
              (try simp only [reduceIte, and_true, true_and, and_false, false_and, and_self, Nat.reduceEqDiff, fz_sF29, rF_sF, rA_sF, rR_sF, tr_sF, rNMp_sF, PNp_sF, GS_F29, OP_F29, NR_F29, LI_F29, RG_l29, RG_r29, TPRp_sF29, WNp_sF29, VMp_sF29, KYp_sF29, PPp_sF29, WFp_sF29, CCp_sF29, Ks170] at q256_1 q256_2 q256_3 q256_4 q256_5 q256_6 q256_7 e256_0 e256_1 e256_2 e256_3 e256_4 e256_5 e256_6)
              have Ks256 : rR s256 7 = rR σ 7 := by first | assumption | ((try simp only [rR_sF, rR_sA, rR_sT, rR_sL] at e256_0 e256_1 e256_2 e256_3 e256_4 e256_5 e256_6); omega)
              refine ⟨(by (try simp only [rng, Ks256]); (all_goals (repeat' (first | with_reducible intro _ | with_reducible apply And.intro))); all_goals (first | assumption | trivial | omega | (have zz_ := fz_z (by assumption); omega) | (split <;> omega) | (exact RG.rf) | (exact RWp.z (by omega)) | (exact RWp.mv (by assumption) (by assumption) (by omega)) | (exact RWp.t2 (by assumption) (by assumption) (by assumption) (by assumption) (by decide)) | (exact RG.tr0 (by assumption) (by assumption)) | (exact RWp.t (by assumption) (by assumption) (by assumption) (by assumption) (by decide)) | grind (splits := 20))), ?_⟩
              exact (by (try simp only [inv_X14_readBytes_t_170, mu_X14_readBytes_t_170, mu_X14_readBytes_t_170, reduceIte, and_true, true_and, and_false, false_and, and_self, Nat.reduceEqDiff, fz_sF29, rF_sF, rA_sF, rR_sF, tr_sF, rNMp_sF, PNp_sF, GS_F29, OP_F29, NR_F29, LI_F29, RG_l29, RG_r29, TPRp_sF29, WNp_sF29, VMp_sF29, KYp_sF29, PPp_sF29, WFp_sF29, CCp_sF29, Ks256]); (all_goals (repeat' (first | with_reducible intro _ | with_reducible apply And.intro))); all_goals (first | assumption | trivial | omega | (have zz_ := fz_z (by assumption); omega) | (split <;> omega) | (exact RG.rf) | (exact RWp.z (by omega)) | (exact RWp.mv (by assumption) (by assumption) (by omega)) | (exact RWp.t2 (by assumption) (by assumption) (by assumption) (by assumption) (by decide)) | (exact RG.tr0 (by assumption) (by assumption)) | (exact RWp.t (by assumption) (by assumption) (by assumption) (by assumption) (by decide)) | grind (splits := 20)))
            · refine ⟨(by (try simp only [pre_X14_note_t, reduceIte, and_true, true_and, and_false, false_and, and_self, Nat.reduceEqDiff, fz_sF29, rF_sF, rA_sF, rR_sF, tr_sF, rNMp_sF, PNp_sF, GS_F29, OP_F29, NR_F29, LI_F29, RG_l29, RG_r29, TPRp_sF29, WNp_sF29, VMp_sF29, KYp_sF29, PPp_sF29, WFp_sF29, CCp_sF29, Ks170]); (all_goals (repeat' (first | with_reducible intro _ | with_reducible apply And.intro))); all_goals (first | assumption | trivial | omega | (have zz_ := fz_z (by assumption); omega) | (split <;> omega) | (exact RG.rf) | (exact RWp.z (by omega)) | (exact RWp.mv (by assumption) (by assumption) (by omega)) | (exact RWp.t2 (by assumption) (by assumption) (by assumption) (by assumption) (by decide)) | (exact RG.tr0 (by assumption) (by assumption)) | (exact RWp.t (by assumption) (by assumption) (by assumption) (by assumption) (by decide)) | grind (splits := 20))), ?_⟩
              intro s256 Ws256 e256_0 e256_1 e256_2 e256_3 e256_4 e256_5 e256_6 q256
              unfold post_X14_note_t at q256
              obtain ⟨q256_1, q256_2, q256_3, q256_4, q256_5, q256_6, q256_7⟩ := q256
              (try simp only [reduceIte, and_true, true_and, and_false, false_and, and_self, Nat.reduceEqDiff, fz_sF29, rF_sF, rA_sF, rR_sF, tr_sF, rNMp_sF, PNp_sF, GS_F29, OP_F29, NR_F29, LI_F29, RG_l29, RG_r29, TPRp_sF29, WNp_sF29, VMp_sF29, KYp_sF29, PPp_sF29, WFp_sF29, CCp_sF29, Ks170] at q256_1 q256_2 q256_3 q256_4 q256_5 q256_6 q256_7 e256_0 e256_1 e256_2 e256_3 e256_4 e256_5 e256_6)
              have Ks256 : rR s256 7 = rR σ 7 := by first | assumption | ((try simp only [rR_sF, rR_sA, rR_sT, rR_sL] at e256_0 e256_1 e256_2 e256_3 e256_4 e256_5 e256_6); omega)
              refine ⟨(by (try simp only [rng, Ks256]); (all_goals (repeat' (first | with_reducible intro _ | with_reducible apply And.intro))); all_goals (first | assumption | trivial | omega | (have zz_ := fz_z (by assumption); omega) | (split <;> omega) | (exact RG.rf) | (exact RWp.z (by omega)) | (exact RWp.mv (by assumption) (by assumption) (by omega)) | (exact RWp.t2 (by assumption) (by assumption) (by assumption) (by assumption) (by decide)) | (exact RG.tr0 (by assumption) (by assumption)) | (exact RWp.t (by assumption) (by assumption) (by assumption) (by assumption) (by decide)) | grind (splits := 20))), ?_⟩
              exact (by (try simp only [inv_X14_readBytes_t_170, mu_X14_readBytes_t_170, mu_X14_readBytes_t_170, reduceIte, and_true, true_and, and_false, false_and, and_self, Nat.reduceEqDiff, fz_sF29, rF_sF, rA_sF, rR_sF, tr_sF, rNMp_sF, PNp_sF, GS_F29, OP_F29, NR_F29, LI_F29, RG_l29, RG_r29, TPRp_sF29, WNp_sF29, VMp_sF29, KYp_sF29, PPp_sF29, WFp_sF29, CCp_sF29, Ks256]); (all_goals (repeat' (first | with_reducible intro _ | with_reducible apply And.intro))); all_goals (first | assumption | trivial | omega | (have zz_ := fz_z (by assumption); omega) | (split <;> omega) | (exact RG.rf) | (exact RWp.z (by omega)) | (exact RWp.mv (by assumption) (by assumption) (by omega)) | (exact RWp.t2 (by assumption) (by assumption) (by assumption) (by assumption) (by decide)) | (exact RG.tr0 (by assumption) (by assumption)) | (exact RWp.t (by assumption) (by assumption) (by assumption) (by assumption) (by decide)) | grind (splits := 20)))
          · refine ⟨(by (try simp only [pre_X14_note_t, reduceIte, and_true, true_and, and_false, false_and, and_self, Nat.reduceEqDiff, fz_sF29, rF_sF, rA_sF, rR_sF, tr_sF, rNMp_sF, PNp_sF, GS_F29, OP_F29, NR_F29, LI_F29, RG_l29, RG_r29, TPRp_sF29, WNp_sF29, VMp_sF29, KYp_sF29, PPp_sF29, WFp_sF29, CCp_sF29, Ks170]); (all_goals (repeat' (first | with_reducible intro _ | with_reducible apply And.intro))); all_goals (first | assumption | trivial | omega | (have zz_ := fz_z (by assumption); omega) | (split <;> omega) | (exact RG.rf) | (exact RWp.z (by omega)) | (exact RWp.mv (by assumption) (by assumption) (by omega)) | (exact RWp.t2 (by assumption) (by assumption) (by assumption) (by assumption) (by decide)) | (exact RG.tr0 (by assumption) (by assumption)) | (exact RWp.t (by assumption) (by assumption) (by assumption) (by assumption) (by decide)) | grind (splits := 20))), ?_⟩
            intro s256 Ws256 e256_0 e256_1 e256_2 e256_3 e256_4 e256_5 e256_6 q256
            unfold post_X14_note_t at q256
            obtain ⟨q256_1, q256_2, q256_3, q256_4, q256_5, q256_6, q256_7⟩ := q256
            (try simp only [reduceIte, and_true, true_and, and_false, false_and, and_self, Nat.reduceEqDiff, fz_sF29, rF_sF, rA_sF, rR_sF, tr_sF, rNMp_sF, PNp_sF, GS_F29, OP_F29, NR_F29, LI_F29, RG_l29, RG_r29, TPRp_sF29, WNp_sF29, VMp_sF29, KYp_sF29, PPp_sF29, WFp_sF29, CCp_sF29, Ks170] at q256_1 q256_2 q256_3 q256_4 q256_5 q256_6 q256_7 e256_0 e256_1 e256_2 e256_3 e256_4 e256_5 e256_6)
            have Ks256 : rR s256 7 = rR σ 7 := by first | assumption | ((try simp only [rR_sF, rR_sA, rR_sT, rR_sL] at e256_0 e256_1 e256_2 e256_3 e256_4 e256_5 e256_6); omega)
            refine ⟨(by (try simp only [rng, Ks256]); (all_goals (repeat' (first | with_reducible intro _ | with_reducible apply And.intro))); all_goals (first | assumption | trivial | omega | (have zz_ := fz_z (by assumption); omega) | (split <;> omega) | (exact RG.rf) | (exact RWp.z (by omega)) | (exact RWp.mv (by assumption) (by assumption) (by omega)) | (exact RWp.t2 (by assumption) (by assumption) (by assumption) (by assumption) (by decide)) | (exact RG.tr0 (by assumption) (by assumption)) | (exact RWp.t (by assumption) (by assumption) (by assumption) (by assumption) (by decide)) | grind (splits := 20))), ?_⟩
            exact (by (try simp only [inv_X14_readBytes_t_170, mu_X14_readBytes_t_170, mu_X14_readBytes_t_170, reduceIte, and_true, true_and, and_false, false_and, and_self, Nat.reduceEqDiff, fz_sF29, rF_sF, rA_sF, rR_sF, tr_sF, rNMp_sF, PNp_sF, GS_F29, OP_F29, NR_F29, LI_F29, RG_l29, RG_r29, TPRp_sF29, WNp_sF29, VMp_sF29, KYp_sF29, PPp_sF29, WFp_sF29, CCp_sF29, Ks256]); (all_goals (repeat' (first | with_reducible intro _ | with_reducible apply And.intro))); all_goals (first | assumption | trivial | omega | (have zz_ := fz_z (by assumption); omega) | (split <;> omega) | (exact RG.rf) | (exact RWp.z (by omega)) | (exact RWp.mv (by assumption) (by assumption) (by omega)) | (exact RWp.t2 (by assumption) (by assumption) (by assumption) (by assumption) (by decide)) | (exact RG.tr0 (by assumption) (by assumption)) | (exact RWp.t (by assumption) (by assumption) (by assumption) (by assumption) (by decide)) | grind (splits := 20)))
        · refine ⟨fun c216 => ?_, fun c216 => ?_⟩
          · refine ⟨fun c234 => ?_, fun c234 => ?_⟩
            · refine ⟨fun c245 => ?_, fun c245 => ?_⟩
              · refine ⟨(by (try simp only [pre_X14_note_t, reduceIte, and_true, true_and, and_false, false_and, and_self, Nat.reduceEqDiff, fz_sF29, rF_sF, rA_sF, rR_sF, tr_sF, rNMp_sF, PNp_sF, GS_F29, OP_F29, NR_F29, LI_F29, RG_l29, RG_r29, TPRp_sF29, WNp_sF29, VMp_sF29, KYp_sF29, PPp_sF29, WFp_sF29, CCp_sF29, Ks170]); (all_goals (repeat' (first | with_reducible intro _ | with_reducible apply And.intro))); all_goals (first | assumption | trivial | omega | (have zz_ := fz_z (by assumption); omega) | (split <;> omega) | (exact RG.rf) | (exact RWp.z (by omega)) | (exact RWp.mv (by assumption) (by assumption) (by omega)) | (exact RWp.t2 (by assumption) (by assumption) (by assumption) (by assumption) (by decide)) | (exact RG.tr0 (by assumption) (by assumption)) | (exact RWp.t (by assumption) (by assumption) (by assumption) (by assumption) (by decide)) | grind (splits := 20))), ?_⟩
                intro s256 Ws256 e256_0 e256_1 e256_2 e256_3 e256_4 e256_5 e256_6 q256
                unfold post_X14_note_t at q256
                obtain ⟨q256_1, q256_2, q256_3, q256_4, q256_5, q256_6, q256_7⟩ := q256
                (try simp only [reduceIte, and_true, true_and, and_false, false_and, and_self, Nat.reduceEqDiff, fz_sF29, rF_sF, rA_sF, rR_sF, tr_sF, rNMp_sF, PNp_sF, GS_F29, OP_F29, NR_F29, LI_F29, RG_l29, RG_r29, TPRp_sF29, WNp_sF29, VMp_sF29, KYp_sF29, PPp_sF29, WFp_sF29, CCp_sF29, Ks170] at q256_1 q256_2 q256_3 q256_4 q256_5 q256_6 q256_7 e256_0 e256_1 e256_2 e256_3 e256_4 e256_5 e256_6)
                have Ks256 : rR s256 7 = rR σ 7 := by first | assumption | ((try simp only [rR_sF, rR_sA, rR_sT, rR_sL] at e256_0 e256_1 e256_2 e256_3 e256_4 e256_5 e256_6); omega)
                refine ⟨(by (try simp only [rng, Ks256]); (all_goals (repeat' (first | with_reducible intro _ | with_reducible apply And.intro))); all_goals (first | assumption | trivial | omega | (have zz_ := fz_z (by assumption); omega) | (split <;> omega) | (exact RG.rf) | (exact RWp.z (by omega)) | (exact RWp.mv (by assumption) (by assumption) (by omega)) | (exact RWp.t2 (by assumption) (by assumption) (by assumption) (by assumption) (by decide)) | (exact RG.tr0 (by assumption) (by assumption)) | (exact RWp.t (by assumption) (by assumption) (by assumption) (by assumption) (by decide)) | grind (splits := 20))), ?_⟩
                exact (by (try simp only [inv_X14_readBytes_t_170, mu_X14_readBytes_t_170, mu_X14_readBytes_t_170, reduceIte, and_true, true_and, and_false, false_and, and_self, Nat.reduceEqDiff, fz_sF29, rF_sF, rA_sF, rR_sF, tr_sF, rNMp_sF, PNp_sF, GS_F29, OP_F29, NR_F29, LI_F29, RG_l29, RG_r29, TPRp_sF29, WNp_sF29, VMp_sF29, KYp_sF29, PPp_sF29, WFp_sF29, CCp_sF29, Ks256]); (all_goals (repeat' (first | with_reducible intro _ | with_reducible apply And.intro))); all_goals (first | assumption | trivial | omega | (have zz_ := fz_z (by assumption); omega) | (split <;> omega) | (exact RG.rf) | (exact RWp.z (by omega)) | (exact RWp.mv (by assumption) (by assumption) (by omega)) | (exact RWp.t2 (by assumption) (by assumption) (by assumption) (by assumption) (by decide)) | (exact RG.tr0 (by assumption) (by assumption)) | (exact RWp.t (by assumption) (by assumption) (by assumption) (by assumption) (by decide)) | grind (splits := 20)))
              · refine ⟨(by (try simp only [pre_X14_note_t, reduceIte, and_true, true_and, and_false, false_and, and_self, Nat.reduceEqDiff, fz_sF29, rF_sF, rA_sF, rR_sF, tr_sF, rNMp_sF, PNp_sF, GS_F29, OP_F29, NR_F29, LI_F29, RG_l29, RG_r29, TPRp_sF29, WNp_sF29, VMp_sF29, KYp_sF29, PPp_sF29, WFp_sF29, CCp_sF29, Ks170]); (all_goals (repeat' (first | with_reducible intro _ | with_reducible apply And.intro))); all_goals (first | assumption | trivial | omega | (have zz_ := fz_z (by assumption); omega) | (split <;> omega) | (exact RG.rf) | (exact RWp.z (by omega)) | (exact RWp.mv (by assumption) (by assumption) (by omega)) | (exact RWp.t2 (by assumption) (by assumption) (by assumption) (by assumption) (by decide)) | (exact RG.tr0 (by assumption) (by assumption)) | (exact RWp.t (by assumption) (by assumption) (by assumption) (by assumption) (by decide)) | grind (splits := 20))), ?_⟩
                intro s256 Ws256 e256_0 e256_1 e256_2 e256_3 e256_4 e256_5 e256_6 q256
                unfold post_X14_note_t at q256
                obtain ⟨q256_1, q256_2, q256_3, q256_4, q256_5, q256_6, q256_7⟩ := q256
                (try simp only [reduceIte, and_true, true_and, and_false, false_and, and_self, Nat.reduceEqDiff, fz_sF29, rF_sF, rA_sF, rR_sF, tr_sF, rNMp_sF, PNp_sF, GS_F29, OP_F29, NR_F29, LI_F29, RG_l29, RG_r29, TPRp_sF29, WNp_sF29, VMp_sF29, KYp_sF29, PPp_sF29, WFp_sF29, CCp_sF29, Ks170] at q256_1 q256_2 q256_3 q256_4 q256_5 q256_6 q256_7 e256_0 e256_1 e256_2 e256_3 e256_4 e256_5 e256_6)
                have Ks256 : rR s256 7 = rR σ 7 := by first | assumption | ((try simp only [rR_sF, rR_sA, rR_sT, rR_sL] at e256_0 e256_1 e256_2 e256_3 e256_4 e256_5 e256_6); omega)
                refine ⟨(by (try simp only [rng, Ks256]); (all_goals (repeat' (first | with_reducible intro _ | with_reducible apply And.intro))); all_goals (first | assumption | trivial | omega | (have zz_ := fz_z (by assumption); omega) | (split <;> omega) | (exact RG.rf) | (exact RWp.z (by omega)) | (exact RWp.mv (by assumption) (by assumption) (by omega)) | (exact RWp.t2 (by assumption) (by assumption) (by assumption) (by assumption) (by decide)) | (exact RG.tr0 (by assumption) (by assumption)) | (exact RWp.t (by assumption) (by assumption) (by assumption) (by assumption) (by decide)) | grind (splits := 20))), ?_⟩
                exact (by (try simp only [inv_X14_readBytes_t_170, mu_X14_readBytes_t_170, mu_X14_readBytes_t_170, reduceIte, and_true, true_and, and_false, false_and, and_self, Nat.reduceEqDiff, fz_sF29, rF_sF, rA_sF, rR_sF, tr_sF, rNMp_sF, PNp_sF, GS_F29, OP_F29, NR_F29, LI_F29, RG_l29, RG_r29, TPRp_sF29, WNp_sF29, VMp_sF29, KYp_sF29, PPp_sF29, WFp_sF29, CCp_sF29, Ks256]); (all_goals (repeat' (first | with_reducible intro _ | with_reducible apply And.intro))); all_goals (first | assumption | trivial | omega | (have zz_ := fz_z (by assumption); omega) | (split <;> omega) | (exact RG.rf) | (exact RWp.z (by omega)) | (exact RWp.mv (by assumption) (by assumption) (by omega)) | (exact RWp.t2 (by assumption) (by assumption) (by assumption) (by assumption) (by decide)) | (exact RG.tr0 (by assumption) (by assumption)) | (exact RWp.t (by assumption) (by assumption) (by assumption) (by assumption) (by decide)) | grind (splits := 20)))
            · refine ⟨(by (try simp only [pre_X14_note_t, reduceIte, and_true, true_and, and_false, false_and, and_self, Nat.reduceEqDiff, fz_sF29, rF_sF, rA_sF, rR_sF, tr_sF, rNMp_sF, PNp_sF, GS_F29, OP_F29, NR_F29, LI_F29, RG_l29, RG_r29, TPRp_sF29, WNp_sF29, VMp_sF29, KYp_sF29, PPp_sF29, WFp_sF29, CCp_sF29, Ks170]); (all_goals (repeat' (first | with_reducible intro _ | with_reducible apply And.intro))); all_goals (first | assumption | trivial | omega | (have zz_ := fz_z (by assumption); omega) | (split <;> omega) | (exact RG.rf) | (exact RWp.z (by omega)) | (exact RWp.mv (by assumption) (by assumption) (by omega)) | (exact RWp.t2 (by assumption) (by assumption) (by assumption) (by assumption) (by decide)) | (exact RG.tr0 (by assumption) (by assumption)) | (exact RWp.t (by assumption) (by assumption) (by assumption) (by assumption) (by decide)) | grind (splits := 20))), ?_⟩
              intro s256 Ws256 e256_0 e256_1 e256_2 e256_3 e256_4 e256_5 e256_6 q256
              unfold post_X14_note_t at q256
              obtain ⟨q256_1, q256_2, q256_3, q256_4, q256_5, q256_6, q256_7⟩ := q256
              (try simp only [reduceIte, and_true, true_and, and_false, false_and, and_self, Nat.reduceEqDiff, fz_sF29, rF_sF, rA_sF, rR_sF, tr_sF, rNMp_sF, PNp_sF, GS_F29, OP_F29, NR_F29, LI_F29, RG_l29, RG_r29, TPRp_sF29, WNp_sF29, VMp_sF29, KYp_sF29, PPp_sF29, WFp_sF29, CCp_sF29, Ks170] at q256_1 q256_2 q256_3 q256_4 q256_5 q256_6 q256_7 e256_0 e256_1 e256_2 e256_3 e256_4 e256_5 e256_6)
              have Ks256 : rR s256 7 = rR σ 7 := by first | assumption | ((try simp only [rR_sF, rR_sA, rR_sT, rR_sL] at e256_0 e256_1 e256_2 e256_3 e256_4 e256_5 e256_6); omega)
              refine ⟨(by (try simp only [rng, Ks256]); (all_goals (repeat' (first | with_reducible intro _ | with_reducible apply And.intro))); all_goals (first | assumption | trivial | omega | (have zz_ := fz_z (by assumption); omega) | (split <;> omega) | (exact RG.rf) | (exact RWp.z (by omega)) | (exact RWp.mv (by assumption) (by assumption) (by omega)) | (exact RWp.t2 (by assumption) (by assumption) (by assumption) (by assumption) (by decide)) | (exact RG.tr0 (by assumption) (by assumption)) | (exact RWp.t (by assumption) (by assumption) (by assumption) (by assumption) (by decide)) | grind (splits := 20))), ?_⟩
              exact (by (try simp only [inv_X14_readBytes_t_170, mu_X14_readBytes_t_170, mu_X14_readBytes_t_170, reduceIte, and_true, true_and, and_false, false_and, and_self, Nat.reduceEqDiff, fz_sF29, rF_sF, rA_sF, rR_sF, tr_sF, rNMp_sF, PNp_sF, GS_F29, OP_F29, NR_F29, LI_F29, RG_l29, RG_r29, TPRp_sF29, WNp_sF29, VMp_sF29, KYp_sF29, PPp_sF29, WFp_sF29, CCp_sF29, Ks256]); (all_goals (repeat' (first | with_reducible intro _ | with_reducible apply And.intro))); all_goals (first | assumption | trivial | omega | (have zz_ := fz_z (by assumption); omega) | (split <;> omega) | (exact RG.rf) | (exact RWp.z (by omega)) | (exact RWp.mv (by assumption) (by assumption) (by omega)) | (exact RWp.t2 (by assumption) (by assumption) (by assumption) (by assumption) (by decide)) | (exact RG.tr0 (by assumption) (by assumption)) | (exact RWp.t (by assumption) (by assumption) (by assumption) (by assumption) (by decide)) | grind (splits := 20)))
          · refine ⟨(by (try simp only [pre_X14_place, reduceIte, and_true, true_and, and_false, false_and, and_self, Nat.reduceEqDiff, fz_sF29, rF_sF, rA_sF, rR_sF, tr_sF, rNMp_sF, PNp_sF, GS_F29, OP_F29, NR_F29, LI_F29, RG_l29, RG_r29, TPRp_sF29, WNp_sF29, VMp_sF29, KYp_sF29, PPp_sF29, WFp_sF29, CCp_sF29, Ks170]); (all_goals (repeat' (first | with_reducible intro _ | with_reducible apply And.intro))); all_goals (first | assumption | trivial | omega | (have zz_ := fz_z (by assumption); omega) | (split <;> omega) | (exact RG.rf) | (exact RWp.z (by omega)) | (exact RWp.mv (by assumption) (by assumption) (by omega)) | (exact RWp.t2 (by assumption) (by assumption) (by assumption) (by assumption) (by decide)) | (exact RG.tr0 (by assumption) (by assumption)) | (exact RWp.t (by assumption) (by assumption) (by assumption) (by assumption) (by decide)) | grind (splits := 20))), ?_⟩
            intro v222 hv222 q222
            unfold rng at hv222
            unfold post_X14_place at q222
            obtain ⟨q222_1, q222_2⟩ := q222
            (try simp only [reduceIte, and_true, true_and, and_false, false_and, and_self, Nat.reduceEqDiff, fz_sF29, rF_sF, rA_sF, rR_sF, tr_sF, rNMp_sF, PNp_sF, GS_F29, OP_F29, NR_F29, LI_F29, RG_l29, RG_r29, TPRp_sF29, WNp_sF29, VMp_sF29, KYp_sF29, PPp_sF29, WFp_sF29, CCp_sF29, Ks170] at q222_1 q222_2)
            refine ⟨(by (try simp only [pre_X14_bad, reduceIte, and_true, true_and, and_false, false_and, and_self, Nat.reduceEqDiff, fz_sF29, rF_sF, rA_sF, rR_sF, tr_sF, rNMp_sF, PNp_sF, GS_F29, OP_F29, NR_F29, LI_F29, RG_l29, RG_r29, TPRp_sF29, WNp_sF29, VMp_sF29, KYp_sF29, PPp_sF29, WFp_sF29, CCp_sF29, Ks170]); (all_goals (repeat' (first | with_reducible intro _ | with_reducible apply And.intro))); all_goals (first | assumption | trivial | omega | (have zz_ := fz_z (by assumption); omega) | (split <;> omega) | (exact RG.rf) | (exact RWp.z (by omega)) | (exact RWp.mv (by assumption) (by assumption) (by omega)) | (exact RWp.t2 (by assumption) (by assumption) (by assumption) (by assumption) (by decide)) | (exact RG.tr0 (by assumption) (by assumption)) | (exact RWp.t (by assumption) (by assumption) (by assumption) (by assumption) (by decide)) | grind (splits := 20))), ?_⟩
            intro s225 Ws225 e225_0 e225_1 e225_2 e225_3 e225_4 e225_5 e225_6 e225_7 e225_8 e225_9 e225_10 R225 q225
            unfold post_X14_bad at q225
            obtain ⟨q225_1, q225_2⟩ := q225
            (try simp only [reduceIte, and_true, true_and, and_false, false_and, and_self, Nat.reduceEqDiff, fz_sF29, rF_sF, rA_sF, rR_sF, tr_sF, rNMp_sF, PNp_sF, GS_F29, OP_F29, NR_F29, LI_F29, RG_l29, RG_r29, TPRp_sF29, WNp_sF29, VMp_sF29, KYp_sF29, PPp_sF29, WFp_sF29, CCp_sF29, Ks170] at q225_1 q225_2 e225_0 e225_1 e225_2 e225_3 e225_4 e225_5 e225_6 e225_7 e225_8 e225_9 e225_10 R225)
            have Ks225 : rR s225 7 = rR σ 7 := by first | assumption | ((try simp only [rR_sF, rR_sA, rR_sT, rR_sL] at e225_0 e225_1 e225_2 e225_3 e225_4 e225_5 e225_6 e225_7 e225_8 e225_9 e225_10 R225); omega)
            exact (by (try simp only [post_X14_readBytes_t, Ks225]); (all_goals (repeat' (first | with_reducible intro _ | with_reducible apply And.intro))); all_goals (first | assumption | trivial | omega | (have zz_ := fz_z (by assumption); omega) | (split <;> omega) | (exact RG.rf) | (exact RWp.z (by omega)) | (exact RWp.mv (by assumption) (by assumption) (by omega)) | (exact RWp.t2 (by assumption) (by assumption) (by assumption) (by assumption) (by decide)) | (exact RG.tr0 (by assumption) (by assumption)) | (exact RWp.t (by assumption) (by assumption) (by assumption) (by assumption) (by decide)) | grind (splits := 20)))
set_option maxHeartbeats 20000000 in
theorem vX14_readBytes_t_170m (σ : rS) (x1 : Int) (gg : Nat) (hwf : rWF σ) (hx1 : rng x1) (hp : pre_X14_readBytes_t σ x1 gg) : VC_X14_readBytes_t_170m σ x1 gg := by
  unfold pre_X14_readBytes_t at hp
  obtain ⟨hp_1, hp_2, hp_3, hp_4, hp_5, hp_6, hp_7, hp_8, hp_9, hp_10, hp_11, hp_12, hp_13⟩ := hp
  unfold rng at hx1
  subst hp_1
  unfold VC_X14_readBytes_t_170m
  (try simp only [inv_X14_readBytes_t_170, mu_X14_readBytes_t_170]); (all_goals (repeat' (first | with_reducible intro _ | with_reducible apply And.intro))); all_goals (first | assumption | omega | grind (splits := 20))
set_option maxHeartbeats 20000000 in
theorem vX14_readBytes_t_130 (σ : rS) (x1 : Int) (gg : Nat) (hwf : rWF σ) (hx1 : rng x1) (hp : pre_X14_readBytes_t σ x1 gg) : VC_X14_readBytes_t_130 σ x1 gg (post_X14_readBytes_t σ x1 gg) := by
  unfold pre_X14_readBytes_t at hp
  obtain ⟨hp_1, hp_2, hp_3, hp_4, hp_5, hp_6, hp_7, hp_8, hp_9, hp_10, hp_11, hp_12, hp_13⟩ := hp
  unfold rng at hx1
  subst hp_1
  unfold VC_X14_readBytes_t_130
  intro s130 Ws130 e130_0 e130_1 e130_2 e130_3 e130_4 I130
  have Ks130 : rR s130 7 = rR σ 7 := by omega
  unfold inv_X14_readBytes_t_130 at I130
  obtain ⟨I130_1, I130_2, I130_3, I130_4, I130_5, I130_6, I130_7, I130_8⟩ := I130
  (try simp only [Ks130] at I130_1 I130_2 I130_3 I130_4 I130_5 I130_6 I130_7 I130_8)
  refine ⟨(by (try simp only [pre_X14_here, Ks130]); (all_goals (repeat' (first | with_reducible intro _ | with_reducible apply And.intro))); all_goals (first | assumption | trivial | omega | (have zz_ := fz_z (by assumption); omega) | (split <;> omega) | (exact RG.rf) | (exact RWp.z (by omega)) | (exact RWp.mv (by assumption) (by assumption) (by omega)) | (exact RWp.t2 (by assumption) (by assumption) (by assumption) (by assumption) (by decide)) | (exact RG.tr0 (by assumption) (by assumption)) | (exact RWp.t (by assumption) (by assumption) (by assumption) (by assumption) (by decide)) | grind (splits := 20))), ?_⟩
  intro v131 hv131 q131
  unfold rng at hv131
  unfold post_X14_here at q131
  obtain ⟨q131_1, q131_2⟩ := q131
  (try simp only [Ks130] at q131_1 q131_2)
  refine ⟨fun c136 => ?_, fun c136 => ?_⟩
  · intro hr_; unfold rng at hr_
    refine ⟨(by (try simp only [rng, Ks130]); (all_goals (repeat' (first | with_reducible intro _ | with_reducible apply And.intro))); all_goals (first | assumption | trivial | omega | (have zz_ := fz_z (by assumption); omega) | (split <;> omega) | (exact RG.rf) | (exact RWp.z (by omega)) | (exact RWp.mv (by assumption) (by assumption) (by omega)) | (exact RWp.t2 (by assumption) (by assumption) (by assumption) (by assumption) (by decide)) | (exact RG.tr0 (by assumption) (by assumption)) | (exact RWp.t (by assumption) (by assumption) (by assumption) (by assumption) (by decide)) | grind (splits := 20))), ?_⟩
    exact (by (try simp only [inv_X14_readBytes_t_130, mu_X14_readBytes_t_130, mu_X14_readBytes_t_130, reduceIte, and_true, true_and, and_false, false_and, and_self, Nat.reduceEqDiff, fz_sF29, rF_sF, rA_sF, rR_sF, tr_sF, rNMp_sF, PNp_sF, GS_F29, OP_F29, NR_F29, LI_F29, RG_l29, RG_r29, TPRp_sF29, WNp_sF29, VMp_sF29, KYp_sF29, PPp_sF29, WFp_sF29, CCp_sF29, Ks130]); (all_goals (repeat' (first | with_reducible intro _ | with_reducible apply And.intro))); all_goals (first | assumption | trivial | omega | (have zz_ := fz_z (by assumption); omega) | (split <;> omega) | (exact RG.rf) | (exact RWp.z (by omega)) | (exact RWp.mv (by assumption) (by assumption) (by omega)) | (exact RWp.t2 (by assumption) (by assumption) (by assumption) (by assumption) (by decide)) | (exact RG.tr0 (by assumption) (by assumption)) | (exact RWp.t (by assumption) (by assumption) (by assumption) (by assumption) (by decide)) | grind (splits := 20)))
  · refine ⟨(by (try simp only [pre_X14_here, Ks130]); (all_goals (repeat' (first | with_reducible intro _ | with_reducible apply And.intro))); all_goals (first | assumption | trivial | omega | (have zz_ := fz_z (by assumption); omega) | (split <;> omega) | (exact RG.rf) | (exact RWp.z (by omega)) | (exact RWp.mv (by assumption) (by assumption) (by omega)) | (exact RWp.t2 (by assumption) (by assumption) (by assumption) (by assumption) (by decide)) | (exact RG.tr0 (by assumption) (by assumption)) | (exact RWp.t (by assumption) (by assumption) (by assumption) (by assumption) (by decide)) | grind (splits := 20))), ?_⟩
    intro v140 hv140 q140
    unfold rng at hv140
    unfold post_X14_here at q140
    obtain ⟨q140_1, q140_2⟩ := q140
    (try simp only [Ks130] at q140_1 q140_2)
    refine ⟨fun c145 => ?_, fun c145 => ?_⟩
    · refine ⟨(by (try simp only [pre_X14_note_t, Ks130]); (all_goals (repeat' (first | with_reducible intro _ | with_reducible apply And.intro))); all_goals (first | assumption | trivial | omega | (have zz_ := fz_z (by assumption); omega) | (split <;> omega) | (exact RG.rf) | (exact RWp.z (by omega)) | (exact RWp.mv (by assumption) (by assumption) (by omega)) | (exact RWp.t2 (by assumption) (by assumption) (by assumption) (by assumption) (by decide)) | (exact RG.tr0 (by assumption) (by assumption)) | (exact RWp.t (by assumption) (by assumption) (by assumption) (by assumption) (by decide)) | grind (splits := 20))), ?_⟩
      intro s166 Ws166 e166_0 e166_1 e166_2 e166_3 e166_4 e166_5 e166_6 q166
      unfold post_X14_note_t at q166
      obtain ⟨q166_1, q166_2, q166_3, q166_4, q166_5, q166_6, q166_7⟩ := q166
      (try simp only [Ks130] at q166_1 q166_2 q166_3 q166_4 q166_5 q166_6 q166_7 e166_0 e166_1 e166_2 e166_3 e166_4 e166_5 e166_6)
      have Ks166 : rR s166 7 = rR σ 7 := by first | assumption | ((try simp only [rR_sF, rR_sA, rR_sT, rR_sL] at e166_0 e166_1 e166_2 e166_3 e166_4 e166_5 e166_6); omega)
      exact (by (try simp only [post_X14_readBytes_t, Ks166]); (all_goals (repeat' (first | with_reducible intro _ | with_reducible apply And.intro))); all_goals (first | assumption | trivial | omega | (have zz_ := fz_z (by assumption); omega) | (split <;> omega) | (exact RG.rf) | (exact RWp.z (by omega)) | (exact RWp.mv (by assumption) (by assumption) (by omega)) | (exact RWp.t2 (by assumption) (by assumption) (by assumption) (by assumption) (by decide)) | (exact RG.tr0 (by assumption) (by assumption)) | (exact RWp.t (by assumption) (by assumption) (by assumption) (by assumption) (by decide)) | grind (splits := 20)))
    · intro hr_; unfold rng at hr_
      refine ⟨(by (try simp only [rng, Ks130]); (all_goals (repeat' (first | with_reducible intro _ | with_reducible apply And.intro))); all_goals (first | assumption | trivial | omega | (have zz_ := fz_z (by assumption); omega) | (split <;> omega) | (exact RG.rf) | (exact RWp.z (by omega)) | (exact RWp.mv (by assumption) (by assumption) (by omega)) | (exact RWp.t2 (by assumption) (by assumption) (by assumption) (by assumption) (by decide)) | (exact RG.tr0 (by assumption) (by assumption)) | (exact RWp.t (by assumption) (by assumption) (by assumption) (by assumption) (by decide)) | grind (splits := 20))), ?_⟩
      exact (by (try simp only [inv_X14_readBytes_t_130, mu_X14_readBytes_t_130, mu_X14_readBytes_t_130, reduceIte, and_true, true_and, and_false, false_and, and_self, Nat.reduceEqDiff, fz_sF29, rF_sF, rA_sF, rR_sF, tr_sF, rNMp_sF, PNp_sF, GS_F29, OP_F29, NR_F29, LI_F29, RG_l29, RG_r29, TPRp_sF29, WNp_sF29, VMp_sF29, KYp_sF29, PPp_sF29, WFp_sF29, CCp_sF29, Ks130]); (all_goals (repeat' (first | with_reducible intro _ | with_reducible apply And.intro))); all_goals (first | assumption | trivial | omega | (have zz_ := fz_z (by assumption); omega) | (split <;> omega) | (exact RG.rf) | (exact RWp.z (by omega)) | (exact RWp.mv (by assumption) (by assumption) (by omega)) | (exact RWp.t2 (by assumption) (by assumption) (by assumption) (by assumption) (by decide)) | (exact RG.tr0 (by assumption) (by assumption)) | (exact RWp.t (by assumption) (by assumption) (by assumption) (by assumption) (by decide)) | grind (splits := 20)))
set_option maxHeartbeats 20000000 in
theorem vX14_readBytes_t_130m (σ : rS) (x1 : Int) (gg : Nat) (hwf : rWF σ) (hx1 : rng x1) (hp : pre_X14_readBytes_t σ x1 gg) : VC_X14_readBytes_t_130m σ x1 gg := by
  unfold pre_X14_readBytes_t at hp
  obtain ⟨hp_1, hp_2, hp_3, hp_4, hp_5, hp_6, hp_7, hp_8, hp_9, hp_10, hp_11, hp_12, hp_13⟩ := hp
  unfold rng at hx1
  subst hp_1
  unfold VC_X14_readBytes_t_130m
  (try simp only [inv_X14_readBytes_t_130, mu_X14_readBytes_t_130]); (all_goals (repeat' (first | with_reducible intro _ | with_reducible apply And.intro))); all_goals (first | assumption | omega | grind (splits := 20))
set_option maxHeartbeats 20000000 in
theorem vX14_readBytes_t_70 (σ : rS) (x1 : Int) (gg : Nat) (hwf : rWF σ) (hx1 : rng x1) (hp : pre_X14_readBytes_t σ x1 gg) : VC_X14_readBytes_t_70 σ x1 gg (post_X14_readBytes_t σ x1 gg) := by
  unfold pre_X14_readBytes_t at hp
  obtain ⟨hp_1, hp_2, hp_3, hp_4, hp_5, hp_6, hp_7, hp_8, hp_9, hp_10, hp_11, hp_12, hp_13⟩ := hp
  unfold rng at hx1
  subst hp_1
  unfold VC_X14_readBytes_t_70
  intro s70 Ws70 e70_0 e70_1 e70_2 e70_3 e70_4 I70
  have Ks70 : rR s70 7 = rR σ 7 := by omega
  unfold inv_X14_readBytes_t_70 at I70
  obtain ⟨I70_1, I70_2, I70_3, I70_4, I70_5, I70_6, I70_7⟩ := I70
  (try simp only [Ks70] at I70_1 I70_2 I70_3 I70_4 I70_5 I70_6 I70_7)
  refine ⟨(by (try simp only [pre_X14_here, Ks70]); (all_goals (repeat' (first | with_reducible intro _ | with_reducible apply And.intro))); all_goals (first | assumption | trivial | omega | (have zz_ := fz_z (by assumption); omega) | (split <;> omega) | (exact RG.rf) | (exact RWp.z (by omega)) | (exact RWp.mv (by assumption) (by assumption) (by omega)) | (exact RWp.t2 (by assumption) (by assumption) (by assumption) (by assumption) (by decide)) | (exact RG.tr0 (by assumption) (by assumption)) | (exact RWp.t (by assumption) (by assumption) (by assumption) (by assumption) (by decide)) | grind (splits := 20))), ?_⟩
  intro v71 hv71 q71
  unfold rng at hv71
  unfold post_X14_here at q71
  obtain ⟨q71_1, q71_2⟩ := q71
  (try simp only [Ks70] at q71_1 q71_2)
  refine ⟨fun c76 => ?_, fun c76 => ?_⟩
  · intro hr_; unfold rng at hr_
    refine ⟨(by (try simp only [rng, Ks70]); (all_goals (repeat' (first | with_reducible intro _ | with_reducible apply And.intro))); all_goals (first | assumption | trivial | omega | (have zz_ := fz_z (by assumption); omega) | (split <;> omega) | (exact RG.rf) | (exact RWp.z (by omega)) | (exact RWp.mv (by assumption) (by assumption) (by omega)) | (exact RWp.t2 (by assumption) (by assumption) (by assumption) (by assumption) (by decide)) | (exact RG.tr0 (by assumption) (by assumption)) | (exact RWp.t (by assumption) (by assumption) (by assumption) (by assumption) (by decide)) | grind (splits := 20))), ?_⟩
    exact (by (try simp only [inv_X14_readBytes_t_70, mu_X14_readBytes_t_70, mu_X14_readBytes_t_70, reduceIte, and_true, true_and, and_false, false_and, and_self, Nat.reduceEqDiff, fz_sF29, rF_sF, rA_sF, rR_sF, tr_sF, rNMp_sF, PNp_sF, GS_F29, OP_F29, NR_F29, LI_F29, RG_l29, RG_r29, TPRp_sF29, WNp_sF29, VMp_sF29, KYp_sF29, PPp_sF29, WFp_sF29, CCp_sF29, Ks70]); (all_goals (repeat' (first | with_reducible intro _ | with_reducible apply And.intro))); all_goals (first | assumption | trivial | omega | (have zz_ := fz_z (by assumption); omega) | (split <;> omega) | (exact RG.rf) | (exact RWp.z (by omega)) | (exact RWp.mv (by assumption) (by assumption) (by omega)) | (exact RWp.t2 (by assumption) (by assumption) (by assumption) (by assumption) (by decide)) | (exact RG.tr0 (by assumption) (by assumption)) | (exact RWp.t (by assumption) (by assumption) (by assumption) (by assumption) (by decide)) | grind (splits := 20)))
  · refine ⟨(by (try simp only [pre_X14_here, Ks70]); (all_goals (repeat' (first | with_reducible intro _ | with_reducible apply And.intro))); all_goals (first | assumption | trivial | omega | (have zz_ := fz_z (by assumption); omega) | (split <;> omega) | (exact RG.rf) | (exact RWp.z (by omega)) | (exact RWp.mv (by assumption) (by assumption) (by omega)) | (exact RWp.t2 (by assumption) (by assumption) (by assumption) (by assumption) (by decide)) | (exact RG.tr0 (by assumption) (by assumption)) | (exact RWp.t (by assumption) (by assumption) (by assumption) (by assumption) (by decide)) | grind (splits := 20))), ?_⟩
    intro v80 hv80 q80
    unfold rng at hv80
    unfold post_X14_here at q80
    obtain ⟨q80_1, q80_2⟩ := q80
    (try simp only [Ks70] at q80_1 q80_2)
    refine ⟨fun c85 => ?_, fun c85 => ?_⟩
    · refine ⟨(by (try simp only [pre_X14_here, Ks70]); (all_goals (repeat' (first | with_reducible intro _ | with_reducible apply And.intro))); all_goals (first | assumption | trivial | omega | (have zz_ := fz_z (by assumption); omega) | (split <;> omega) | (exact RG.rf) | (exact RWp.z (by omega)) | (exact RWp.mv (by assumption) (by assumption) (by omega)) | (exact RWp.t2 (by assumption) (by assumption) (by assumption) (by assumption) (by decide)) | (exact RG.tr0 (by assumption) (by assumption)) | (exact RWp.t (by assumption) (by assumption) (by assumption) (by assumption) (by decide)) | grind (splits := 20))), ?_⟩
      intro v102 hv102 q102
      unfold rng at hv102
      unfold post_X14_here at q102
      obtain ⟨q102_1, q102_2⟩ := q102
      (try simp only [Ks70] at q102_1 q102_2)
      refine ⟨fun c107 => ?_, fun c107 => ?_⟩
      · intro hr_; unfold rng at hr_
        refine ⟨(by (try simp only [rng, Ks70]); (all_goals (repeat' (first | with_reducible intro _ | with_reducible apply And.intro))); all_goals (first | assumption | trivial | omega | (have zz_ := fz_z (by assumption); omega) | (split <;> omega) | (exact RG.rf) | (exact RWp.z (by omega)) | (exact RWp.mv (by assumption) (by assumption) (by omega)) | (exact RWp.t2 (by assumption) (by assumption) (by assumption) (by assumption) (by decide)) | (exact RG.tr0 (by assumption) (by assumption)) | (exact RWp.t (by assumption) (by assumption) (by assumption) (by assumption) (by decide)) | grind (splits := 20))), ?_⟩
        exact (by (try simp only [inv_X14_readBytes_t_130, reduceIte, and_true, true_and, and_false, false_and, and_self, Nat.reduceEqDiff, fz_sF29, rF_sF, rA_sF, rR_sF, tr_sF, rNMp_sF, PNp_sF, GS_F29, OP_F29, NR_F29, LI_F29, RG_l29, RG_r29, TPRp_sF29, WNp_sF29, VMp_sF29, KYp_sF29, PPp_sF29, WFp_sF29, CCp_sF29, Ks70]); (all_goals (repeat' (first | with_reducible intro _ | with_reducible apply And.intro))); all_goals (first | assumption | trivial | omega | (have zz_ := fz_z (by assumption); omega) | (split <;> omega) | (exact RG.rf) | (exact RWp.z (by omega)) | (exact RWp.mv (by assumption) (by assumption) (by omega)) | (exact RWp.t2 (by assumption) (by assumption) (by assumption) (by assumption) (by decide)) | (exact RG.tr0 (by assumption) (by assumption)) | (exact RWp.t (by assumption) (by assumption) (by assumption) (by assumption) (by decide)) | grind (splits := 20)))
      · refine ⟨(by (try simp only [pre_X14_place, Ks70]); (all_goals (repeat' (first | with_reducible intro _ | with_reducible apply And.intro))); all_goals (first | assumption | trivial | omega | (have zz_ := fz_z (by assumption); omega) | (split <;> omega) | (exact RG.rf) | (exact RWp.z (by omega)) | (exact RWp.mv (by assumption) (by assumption) (by omega)) | (exact RWp.t2 (by assumption) (by assumption) (by assumption) (by assumption) (by decide)) | (exact RG.tr0 (by assumption) (by assumption)) | (exact RWp.t (by assumption) (by assumption) (by assumption) (by assumption) (by decide)) | grind (splits := 20))), ?_⟩
        intro v113 hv113 q113
        unfold rng at hv113
        unfold post_X14_place at q113
        obtain ⟨q113_1, q113_2⟩ := q113
        (try simp only [Ks70] at q113_1 q113_2)
        refine ⟨(by (try simp only [pre_X14_bad, Ks70]); (all_goals (repeat' (first | with_reducible intro _ | with_reducible apply And.intro))); all_goals (first | assumption | trivial | omega | (have zz_ := fz_z (by assumption); omega) | (split <;> omega) | (exact RG.rf) | (exact RWp.z (by omega)) | (exact RWp.mv (by assumption) (by assumption) (by omega)) | (exact RWp.t2 (by assumption) (by assumption) (by assumption) (by assumption) (by decide)) | (exact RG.tr0 (by assumption) (by assumption)) | (exact RWp.t (by assumption) (by assumption) (by assumption) (by assumption) (by decide)) | grind (splits := 20))), ?_⟩
        intro s116 Ws116 e116_0 e116_1 e116_2 e116_3 e116_4 e116_5 e116_6 e116_7 e116_8 e116_9 e116_10 R116 q116
        unfold post_X14_bad at q116
        obtain ⟨q116_1, q116_2⟩ := q116
        (try simp only [Ks70] at q116_1 q116_2 e116_0 e116_1 e116_2 e116_3 e116_4 e116_5 e116_6 e116_7 e116_8 e116_9 e116_10 R116)
        have Ks116 : rR s116 7 = rR σ 7 := by first | assumption | ((try simp only [rR_sF, rR_sA, rR_sT, rR_sL] at e116_0 e116_1 e116_2 e116_3 e116_4 e116_5 e116_6 e116_7 e116_8 e116_9 e116_10 R116); omega)
        exact (by (try simp only [post_X14_readBytes_t, Ks116]); (all_goals (repeat' (first | with_reducible intro _ | with_reducible apply And.intro))); all_goals (first | assumption | trivial | omega | (have zz_ := fz_z (by assumption); omega) | (split <;> omega) | (exact RG.rf) | (exact RWp.z (by omega)) | (exact RWp.mv (by assumption) (by assumption) (by omega)) | (exact RWp.t2 (by assumption) (by assumption) (by assumption) (by assumption) (by decide)) | (exact RG.tr0 (by assumption) (by assumption)) | (exact RWp.t (by assumption) (by assumption) (by assumption) (by assumption) (by decide)) | grind (splits := 20)))
    · intro hr_; unfold rng at hr_
      refine ⟨(by (try simp only [rng, Ks70]); (all_goals (repeat' (first | with_reducible intro _ | with_reducible apply And.intro))); all_goals (first | assumption | trivial | omega | (have zz_ := fz_z (by assumption); omega) | (split <;> omega) | (exact RG.rf) | (exact RWp.z (by omega)) | (exact RWp.mv (by assumption) (by assumption) (by omega)) | (exact RWp.t2 (by assumption) (by assumption) (by assumption) (by assumption) (by decide)) | (exact RG.tr0 (by assumption) (by assumption)) | (exact RWp.t (by assumption) (by assumption) (by assumption) (by assumption) (by decide)) | grind (splits := 20))), ?_⟩
      exact (by (try simp only [inv_X14_readBytes_t_70, mu_X14_readBytes_t_70, mu_X14_readBytes_t_70, reduceIte, and_true, true_and, and_false, false_and, and_self, Nat.reduceEqDiff, fz_sF29, rF_sF, rA_sF, rR_sF, tr_sF, rNMp_sF, PNp_sF, GS_F29, OP_F29, NR_F29, LI_F29, RG_l29, RG_r29, TPRp_sF29, WNp_sF29, VMp_sF29, KYp_sF29, PPp_sF29, WFp_sF29, CCp_sF29, Ks70]); (all_goals (repeat' (first | with_reducible intro _ | with_reducible apply And.intro))); all_goals (first | assumption | trivial | omega | (have zz_ := fz_z (by assumption); omega) | (split <;> omega) | (exact RG.rf) | (exact RWp.z (by omega)) | (exact RWp.mv (by assumption) (by assumption) (by omega)) | (exact RWp.t2 (by assumption) (by assumption) (by assumption) (by assumption) (by decide)) | (exact RG.tr0 (by assumption) (by assumption)) | (exact RWp.t (by assumption) (by assumption) (by assumption) (by assumption) (by decide)) | grind (splits := 20)))
set_option maxHeartbeats 20000000 in
theorem vX14_readBytes_t_70m (σ : rS) (x1 : Int) (gg : Nat) (hwf : rWF σ) (hx1 : rng x1) (hp : pre_X14_readBytes_t σ x1 gg) : VC_X14_readBytes_t_70m σ x1 gg := by
  unfold pre_X14_readBytes_t at hp
  obtain ⟨hp_1, hp_2, hp_3, hp_4, hp_5, hp_6, hp_7, hp_8, hp_9, hp_10, hp_11, hp_12, hp_13⟩ := hp
  unfold rng at hx1
  subst hp_1
  unfold VC_X14_readBytes_t_70m
  (try simp only [inv_X14_readBytes_t_70, mu_X14_readBytes_t_70]); (all_goals (repeat' (first | with_reducible intro _ | with_reducible apply And.intro))); all_goals (first | assumption | omega | grind (splits := 20))
theorem wX14_readBytes_t (l : Launch) (G : zG) (κ : Nat → Nat) (σ : rS) (x1 : Int) (gg : Nat) (hwf : rWF σ) (hx1 : rng x1) (Q : rS → Prop) (h : VC_X14_readBytes_t σ x1 gg Q) (h_170 : VC_X14_readBytes_t_170 σ x1 gg Q) (h_170m : VC_X14_readBytes_t_170m σ x1 gg) (h_130 : VC_X14_readBytes_t_130 σ x1 gg Q) (h_130m : VC_X14_readBytes_t_130m σ x1 gg) (h_70 : VC_X14_readBytes_t_70 σ x1 gg Q) (h_70m : VC_X14_readBytes_t_70m σ x1 gg) : rMv l G κ yX14_readBytes cX14_readBytes 3 2 23 [.ref (κ 0), iv x1] σ (fun s => rKeep 0x4020001c00 0 0x3c00000000 0 0 σ s ∧ Q s) := by
  refine zMv.intro (by decide +kernel) (Nat.le_of_ble_eq_true rfl) (fun X hC hR => ?_)
  obtain ⟨g0, h⟩ := h
  refine z_aload_n hC (pc := 0) 0 dX14_readBytes_0 rfl rfl ?_
  refine y_get hC (pc := 1) zf14 rOb_0 29 (v := iv (rF σ 0 29)) dX14_readBytes_1 zw2496 (rv_i (Or.inl rfl) rfl) (kk := ?_)
  have h := h (hwf.f _ _)
  refine z_iconst hC (pc := 4) (v := Int32.ofInt 1) dX14_readBytes_4 (by decide) ?_
  refine y_iadd hC (pc := 5) (v := ((rF σ 0 29) + 1)) dX14_readBytes_5 rfl ?_
  refine z_aload_n hC (pc := 6) 0 dX14_readBytes_6 rfl rfl ?_
  refine y_get hC (pc := 7) zf14 rOb_0 28 (v := iv (rF σ 0 28)) dX14_readBytes_7 zw2495 (rv_i (Or.inl rfl) rfl) (kk := ?_)
  have h := h (hwf.f _ _)
  have j170 : ∀ (d170 : Nat), ∀ (s170 : rS) , rWF s170 → rKeep 0x4020001c00 0 0x3c00000000 0 0 σ s170 → inv_X14_readBytes_t_170 σ x1 gg s170 → (mu_X14_readBytes_t_170 σ x1 gg s170 ) ≤ d170 → zS X G 3 (rW G κ s170) [(0, .ref (κ 0)), (1, iv x1)] 0 0 170 [] := by
    intro d170
    induction d170 with
    | zero =>
      intro s170 Ws170 kJ hI hmu
      exact absurd hmu (by have := h_170m  s170  Ws170  (TPRp.keep kJ rfl rfl rfl) (kJ.R rfl) (kJ.F rfl) (kJ.F rfl) (fun i => kJ.A (f := 26) (by decide) rfl) hI; omega)
    | succ d170 ih170 =>
      intro s170 Ws170 kJ hI hmu170
      have h := h_170  s170  Ws170  (TPRp.keep kJ rfl rfl rfl) (kJ.R rfl) (kJ.F rfl) (kJ.F rfl) (fun i => kJ.A (f := 26) (by decide) rfl) hI
      refine z_aload_n hC (pc := 170) 0 dX14_readBytes_170 rfl rfl ?_
      obtain ⟨p10, h⟩ := h
      refine y_callVi hC (pc := 171) (As := []) (kX14_here l G κ s170  Ws170  p10) dmX14_here zf14 rOb_0 dX14_readBytes_171 zw3099 rfl rfl (Nat.le_of_ble_eq_true rfl) (Nat.le_of_ble_eq_true rfl) (Nat.le_of_ble_eq_true rfl) (Nat.le_of_ble_eq_true rfl) (Nat.le_of_ble_eq_true rfl) (kk := fun v171 s171 hv171 Ws171 qs171 => ?_)
      obtain ⟨es171, qs171⟩ := qs171
      have es171 := es171.symm
      subst es171
      have h := h v171 hv171 qs171
      refine z_bipush hC (pc := 174) (v := Int32.ofInt 92) dX14_readBytes_174 (by decide) ?_
      obtain ⟨hT, hF⟩ := h
      refine y_icmp_ne hC (pc := 176) 272 hv171 (r_lit rfl) dX14_readBytes_176 (by decide) (fun c => ?_) (fun c => ?_)
      · have h := hT c
        refine z_aload_n hC (pc := 272) 0 dX14_readBytes_272 rfl rfl ?_
        obtain ⟨p11, h⟩ := h
        refine y_callVi hC (pc := 273) (As := []) (kX14_here l G κ s170  Ws170  p11) dmX14_here zf14 rOb_0 dX14_readBytes_273 zw3099 rfl rfl (Nat.le_of_ble_eq_true rfl) (Nat.le_of_ble_eq_true rfl) (Nat.le_of_ble_eq_true rfl) (Nat.le_of_ble_eq_true rfl) (Nat.le_of_ble_eq_true rfl) (kk := fun v273 s273 hv273 Ws273 qs273 => ?_)
        obtain ⟨es273, qs273⟩ := qs273
        have es273 := es273.symm
        subst es273
        have h := h v273 hv273 qs273
        refine z_aload_n hC (pc := 276) 0 dX14_readBytes_276 rfl rfl ?_
        refine y_get hC (pc := 277) zf14 rOb_0 19 (v := iv (rF s170 0 19)) dX14_readBytes_277 zw2486 (rv_i (Or.inl rfl) rfl) (kk := ?_)
        have h := h (Ws170.f _ _)
        obtain ⟨hT, hF⟩ := h
        refine y_icmp_ne hC (pc := 280) 296 hv273 (Ws170.f _ _) dX14_readBytes_280 (by decide) (fun c => ?_) (fun c => ?_)
        · have h := hT c
          refine z_aload_n hC (pc := 296) 0 dX14_readBytes_296 rfl rfl ?_
          refine z_iconst hC (pc := 297) (v := Int32.ofInt 1) dX14_readBytes_297 (by decide) ?_
          refine z_aload_n hC (pc := 298) 0 dX14_readBytes_298 rfl rfl ?_
          obtain ⟨p12, h⟩ := h
          refine y_callVi hC (pc := 299) (As := []) (kX14_place l G κ s170  Ws170  p12) dmX14_place zf14 rOb_0 dX14_readBytes_299 zw3103 rfl rfl (Nat.le_of_ble_eq_true rfl) (Nat.le_of_ble_eq_true rfl) (Nat.le_of_ble_eq_true rfl) (Nat.le_of_ble_eq_true rfl) (Nat.le_of_ble_eq_true rfl) (kk := fun v299 s299 hv299 Ws299 qs299 => ?_)
          obtain ⟨es299, qs299⟩ := qs299
          have es299 := es299.symm
          subst es299
          have h := h v299 hv299 qs299
          obtain ⟨p13, h⟩ := h
          refine y_callVv hC (pc := 302) (As := [iv 1, iv v299]) (kX14_bad l G κ s170 1 v299 Ws170 (r_lit rfl) hv299 p13) dmX14_bad zf14 rOb_0 dX14_readBytes_302 zw3000 rfl rfl (Nat.le_of_ble_eq_true rfl) (Nat.le_of_ble_eq_true rfl) (Nat.le_of_ble_eq_true rfl) (Nat.le_of_ble_eq_true rfl) (Nat.le_of_ble_eq_true rfl) (kk := fun s302 Ws302 qs302 => ?_)
          have h := h s302 Ws302 (TPRp.keep qs302.1 rfl rfl rfl) (WNp.keep qs302.1 rfl rfl rfl rfl rfl) (qs302.1.R rfl) (qs302.1.F rfl) (qs302.1.F rfl) (qs302.1.F rfl) (qs302.1.F rfl) (fun i => qs302.1.A (f := 26) (by decide) rfl) (fun i => qs302.1.A (f := 34) (by decide) rfl) (fun i => qs302.1.A (f := 35) (by decide) rfl) (fun i => qs302.1.A (f := 37) (by decide) rfl) (RG.keep (c0 := 0) qs302.1 rfl rfl rfl rfl rfl rfl rfl rfl rfl rfl rfl rfl rfl rfl rfl rfl rfl rfl) qs302.2
          exact y_retv hR dX14_readBytes_305 Ws302 (Nat.le_of_ble_eq_true rfl) (Nat.le_of_ble_eq_true rfl) ⟨(rKeep.tr (rKeep.tr rKeep.rf kJ rfl rfl rfl rfl rfl) qs302.1 rfl rfl rfl rfl rfl), h⟩
        · have h := hF c
          refine z_aload_n hC (pc := 283) 0 dX14_readBytes_283 rfl rfl ?_
          refine z_dup hC (pc := 284) dX14_readBytes_284 rfl ?_
          refine y_get hC (pc := 285) zf14 rOb_0 29 (v := iv (rF s170 0 29)) dX14_readBytes_285 zw2496 (rv_i (Or.inl rfl) rfl) (kk := ?_)
          have h := h (Ws170.f _ _)
          refine z_iconst hC (pc := 288) (v := Int32.ofInt 1) dX14_readBytes_288 (by decide) ?_
          refine y_iadd hC (pc := 289) (v := ((rF s170 0 29) + 1)) dX14_readBytes_289 rfl ?_
          obtain ⟨r14, h⟩ := h
          refine y_putI hC (pc := 290) zf14 rOb_0 29 (x := ((rF s170 0 29) + 1)) dX14_readBytes_290 zw2496 (Or.inl rfl) rfl rfl (kk := ?_)
          have W15 := Ws170.sF (q := 0) (f := 29) (x := ((rF s170 0 29) + 1)) r14
          refine z_goto hC (pc := 293) 305 dX14_readBytes_293 (by decide) ?_
          exact y_retv hR dX14_readBytes_305 W15 (Nat.le_of_ble_eq_true rfl) (Nat.le_of_ble_eq_true rfl) ⟨(rKeep.tr (rKeep.tr rKeep.rf kJ rfl rfl rfl rfl rfl) (rKeep.sF0 (f := 29)) rfl rfl rfl rfl rfl), h⟩
      · have h := hF c
        refine z_aload_n hC (pc := 179) 0 dX14_readBytes_179 rfl rfl ?_
        refine y_get hC (pc := 180) zf14 rOb_0 10 (v := iv (rF s170 0 10)) dX14_readBytes_180 zw2478 (rv_i (Or.inl rfl) rfl) (kk := ?_)
        have h := h (Ws170.f _ _)
        obtain ⟨hT, hF⟩ := h
        refine y_if_ne hC (pc := 183) 272 (Ws170.f _ _) dX14_readBytes_183 (by decide) (fun c => ?_) (fun c => ?_)
        · have h := hT c
          refine z_aload_n hC (pc := 272) 0 dX14_readBytes_272 rfl rfl ?_
          obtain ⟨p16, h⟩ := h
          refine y_callVi hC (pc := 273) (As := []) (kX14_here l G κ s170  Ws170  p16) dmX14_here zf14 rOb_0 dX14_readBytes_273 zw3099 rfl rfl (Nat.le_of_ble_eq_true rfl) (Nat.le_of_ble_eq_true rfl) (Nat.le_of_ble_eq_true rfl) (Nat.le_of_ble_eq_true rfl) (Nat.le_of_ble_eq_true rfl) (kk := fun v273 s273 hv273 Ws273 qs273 => ?_)
          obtain ⟨es273, qs273⟩ := qs273
          have es273 := es273.symm
          subst es273
          have h := h v273 hv273 qs273
          refine z_aload_n hC (pc := 276) 0 dX14_readBytes_276 rfl rfl ?_
          refine y_get hC (pc := 277) zf14 rOb_0 19 (v := iv (rF s170 0 19)) dX14_readBytes_277 zw2486 (rv_i (Or.inl rfl) rfl) (kk := ?_)
          have h := h (Ws170.f _ _)
          obtain ⟨hT, hF⟩ := h
          refine y_icmp_ne hC (pc := 280) 296 hv273 (Ws170.f _ _) dX14_readBytes_280 (by decide) (fun c => ?_) (fun c => ?_)
          · have h := hT c
            refine z_aload_n hC (pc := 296) 0 dX14_readBytes_296 rfl rfl ?_
            refine z_iconst hC (pc := 297) (v := Int32.ofInt 1) dX14_readBytes_297 (by decide) ?_
            refine z_aload_n hC (pc := 298) 0 dX14_readBytes_298 rfl rfl ?_
            obtain ⟨p17, h⟩ := h
            refine y_callVi hC (pc := 299) (As := []) (kX14_place l G κ s170  Ws170  p17) dmX14_place zf14 rOb_0 dX14_readBytes_299 zw3103 rfl rfl (Nat.le_of_ble_eq_true rfl) (Nat.le_of_ble_eq_true rfl) (Nat.le_of_ble_eq_true rfl) (Nat.le_of_ble_eq_true rfl) (Nat.le_of_ble_eq_true rfl) (kk := fun v299 s299 hv299 Ws299 qs299 => ?_)
            obtain ⟨es299, qs299⟩ := qs299
            have es299 := es299.symm
            subst es299
            have h := h v299 hv299 qs299
            obtain ⟨p18, h⟩ := h
            refine y_callVv hC (pc := 302) (As := [iv 1, iv v299]) (kX14_bad l G κ s170 1 v299 Ws170 (r_lit rfl) hv299 p18) dmX14_bad zf14 rOb_0 dX14_readBytes_302 zw3000 rfl rfl (Nat.le_of_ble_eq_true rfl) (Nat.le_of_ble_eq_true rfl) (Nat.le_of_ble_eq_true rfl) (Nat.le_of_ble_eq_true rfl) (Nat.le_of_ble_eq_true rfl) (kk := fun s302 Ws302 qs302 => ?_)
            have h := h s302 Ws302 (TPRp.keep qs302.1 rfl rfl rfl) (WNp.keep qs302.1 rfl rfl rfl rfl rfl) (qs302.1.R rfl) (qs302.1.F rfl) (qs302.1.F rfl) (qs302.1.F rfl) (qs302.1.F rfl) (fun i => qs302.1.A (f := 26) (by decide) rfl) (fun i => qs302.1.A (f := 34) (by decide) rfl) (fun i => qs302.1.A (f := 35) (by decide) rfl) (fun i => qs302.1.A (f := 37) (by decide) rfl) (RG.keep (c0 := 0) qs302.1 rfl rfl rfl rfl rfl rfl rfl rfl rfl rfl rfl rfl rfl rfl rfl rfl rfl rfl) qs302.2
            exact y_retv hR dX14_readBytes_305 Ws302 (Nat.le_of_ble_eq_true rfl) (Nat.le_of_ble_eq_true rfl) ⟨(rKeep.tr (rKeep.tr rKeep.rf kJ rfl rfl rfl rfl rfl) qs302.1 rfl rfl rfl rfl rfl), h⟩
          · have h := hF c
            refine z_aload_n hC (pc := 283) 0 dX14_readBytes_283 rfl rfl ?_
            refine z_dup hC (pc := 284) dX14_readBytes_284 rfl ?_
            refine y_get hC (pc := 285) zf14 rOb_0 29 (v := iv (rF s170 0 29)) dX14_readBytes_285 zw2496 (rv_i (Or.inl rfl) rfl) (kk := ?_)
            have h := h (Ws170.f _ _)
            refine z_iconst hC (pc := 288) (v := Int32.ofInt 1) dX14_readBytes_288 (by decide) ?_
            refine y_iadd hC (pc := 289) (v := ((rF s170 0 29) + 1)) dX14_readBytes_289 rfl ?_
            obtain ⟨r19, h⟩ := h
            refine y_putI hC (pc := 290) zf14 rOb_0 29 (x := ((rF s170 0 29) + 1)) dX14_readBytes_290 zw2496 (Or.inl rfl) rfl rfl (kk := ?_)
            have W20 := Ws170.sF (q := 0) (f := 29) (x := ((rF s170 0 29) + 1)) r19
            refine z_goto hC (pc := 293) 305 dX14_readBytes_293 (by decide) ?_
            exact y_retv hR dX14_readBytes_305 W20 (Nat.le_of_ble_eq_true rfl) (Nat.le_of_ble_eq_true rfl) ⟨(rKeep.tr (rKeep.tr rKeep.rf kJ rfl rfl rfl rfl rfl) (rKeep.sF0 (f := 29)) rfl rfl rfl rfl rfl), h⟩
        · have h := hF c
          refine z_aload_n hC (pc := 186) 0 dX14_readBytes_186 rfl rfl ?_
          refine z_dup hC (pc := 187) dX14_readBytes_187 rfl ?_
          refine y_get hC (pc := 188) zf14 rOb_0 29 (v := iv (rF s170 0 29)) dX14_readBytes_188 zw2496 (rv_i (Or.inl rfl) rfl) (kk := ?_)
          have h := h (Ws170.f _ _)
          refine z_iconst hC (pc := 191) (v := Int32.ofInt 1) dX14_readBytes_191 (by decide) ?_
          refine y_iadd hC (pc := 192) (v := ((rF s170 0 29) + 1)) dX14_readBytes_192 rfl ?_
          obtain ⟨r21, h⟩ := h
          refine y_putI hC (pc := 193) zf14 rOb_0 29 (x := ((rF s170 0 29) + 1)) dX14_readBytes_193 zw2496 (Or.inl rfl) rfl rfl (kk := ?_)
          have W22 := Ws170.sF (q := 0) (f := 29) (x := ((rF s170 0 29) + 1)) r21
          refine z_aload_n hC (pc := 196) 0 dX14_readBytes_196 rfl rfl ?_
          obtain ⟨p23, h⟩ := h
          refine y_callVi hC (pc := 197) (As := []) (kX14_here l G κ (sF s170 0 29 ((rF s170 0 29) + 1))  W22  p23) dmX14_here zf14 rOb_0 dX14_readBytes_197 zw3099 rfl rfl (Nat.le_of_ble_eq_true rfl) (Nat.le_of_ble_eq_true rfl) (Nat.le_of_ble_eq_true rfl) (Nat.le_of_ble_eq_true rfl) (Nat.le_of_ble_eq_true rfl) (kk := fun v197 s197 hv197 Ws197 qs197 => ?_)
          obtain ⟨es197, qs197⟩ := qs197
          have es197 := es197.symm
          subst es197
          have h := h v197 hv197 qs197
          refine z_istore_n hC (pc := 200) (lv' := [(2, iv v197), (0, .ref (κ 0)), (1, iv x1)]) dX14_readBytes_200 rfl (by decide) rfl ?_
          refine z_iload_n hC (pc := 201) 0 dX14_readBytes_201 rfl rfl ?_
          refine z_bipush hC (pc := 202) (v := Int32.ofInt 110) dX14_readBytes_202 (by decide) ?_
          obtain ⟨hT, hF⟩ := h
          refine y_icmp_eq hC (pc := 204) 229 hv197 (r_lit rfl) dX14_readBytes_204 (by decide) (fun c => ?_) (fun c => ?_)
          · have h := hT c
            refine z_aload_n hC (pc := 229) 1 dX14_readBytes_229 rfl rfl ?_
            refine z_iconst hC (pc := 230) (v := Int32.ofInt 3) dX14_readBytes_230 (by decide) ?_
            refine z_iload_n hC (pc := 231) 0 dX14_readBytes_231 rfl rfl ?_
            refine z_bipush hC (pc := 232) (v := Int32.ofInt 110) dX14_readBytes_232 (by decide) ?_
            obtain ⟨hT, hF⟩ := h
            refine y_icmp_ne hC (pc := 234) 242 hv197 (r_lit rfl) dX14_readBytes_234 (by decide) (fun c => ?_) (fun c => ?_)
            · have h := hT c
              refine z_iload_n hC (pc := 242) 0 dX14_readBytes_242 rfl rfl ?_
              refine z_bipush hC (pc := 243) (v := Int32.ofInt 116) dX14_readBytes_243 (by decide) ?_
              obtain ⟨hT, hF⟩ := h
              refine y_icmp_ne hC (pc := 245) 253 hv197 (r_lit rfl) dX14_readBytes_245 (by decide) (fun c => ?_) (fun c => ?_)
              · have h := hT c
                refine z_bipush hC (pc := 253) (v := Int32.ofInt 32) dX14_readBytes_253 (by decide) ?_
                refine z_iload_n hC (pc := 255) 2 dX14_readBytes_255 rfl rfl ?_
                obtain ⟨p24, h⟩ := h
                refine y_callVv hC (pc := 256) (As := [iv 3, iv 32, iv x1]) (kX14_note_t l G κ (sF s170 0 29 ((rF s170 0 29) + 1)) 3 32 x1 gg W22 (r_lit rfl) (r_lit rfl) hx1 p24) dmX14_note zf14 rOb_0 dX14_readBytes_256 zw3111 rfl rfl (Nat.le_of_ble_eq_true rfl) (Nat.le_of_ble_eq_true rfl) (Nat.le_of_ble_eq_true rfl) (Nat.le_of_ble_eq_true rfl) (Nat.le_of_ble_eq_true rfl) (kk := fun s256 Ws256 qs256 => ?_)
                have h := h s256 Ws256 (TPRp.keep qs256.1 rfl rfl rfl) (qs256.1.R rfl) (qs256.1.F rfl) (qs256.1.F rfl) (qs256.1.F rfl) (qs256.1.F rfl) (fun i => qs256.1.A (f := 26) (by decide) rfl) qs256.2
                refine z_aload_n hC (pc := 259) 1 dX14_readBytes_259 rfl rfl ?_
                refine z_dup hC (pc := 260) dX14_readBytes_260 rfl ?_
                refine y_get hC (pc := 261) zf14 rOb_0 29 (v := iv ((rF s170 0 29) + 1)) dX14_readBytes_261 zw2496 (rv_i (Or.inl rfl) ((qs256.1.F rfl).trans (F_sF _ _ _ _))) (kk := ?_)
                refine z_iconst hC (pc := 264) (v := Int32.ofInt 1) dX14_readBytes_264 (by decide) ?_
                refine y_iadd hC (pc := 265) (v := (((rF s170 0 29) + 1) + 1)) dX14_readBytes_265 rfl ?_
                obtain ⟨r25, h⟩ := h
                refine y_putI hC (pc := 266) zf14 rOb_0 29 (x := (((rF s170 0 29) + 1) + 1)) dX14_readBytes_266 zw2496 (Or.inl rfl) rfl rfl (kk := ?_)
                have W26 := Ws256.sF (q := 0) (f := 29) (x := (((rF s170 0 29) + 1) + 1)) r25
                refine z_goto hC (pc := 269) 170 dX14_readBytes_269 (by decide) ?_
                refine z_lvs [1, 2] rfl ?_
                obtain ⟨hI, hm⟩ := h
                exact ih170 (sF s256 0 29 (((rF s170 0 29) + 1) + 1))  W26  (rKeep.tr (rKeep.tr (rKeep.tr (rKeep.tr rKeep.rf kJ rfl rfl rfl rfl rfl) (rKeep.sF0 (f := 29)) rfl rfl rfl rfl rfl) qs256.1 rfl rfl rfl rfl rfl) (rKeep.sF0 (f := 29)) rfl rfl rfl rfl rfl) hI (by omega)
              · have h := hF c
                refine z_bipush hC (pc := 248) (v := Int32.ofInt 9) dX14_readBytes_248 (by decide) ?_
                refine z_goto hC (pc := 250) 255 dX14_readBytes_250 (by decide) ?_
                refine z_iload_n hC (pc := 255) 2 dX14_readBytes_255 rfl rfl ?_
                obtain ⟨p27, h⟩ := h
                refine y_callVv hC (pc := 256) (As := [iv 3, iv 9, iv x1]) (kX14_note_t l G κ (sF s170 0 29 ((rF s170 0 29) + 1)) 3 9 x1 gg W22 (r_lit rfl) (r_lit rfl) hx1 p27) dmX14_note zf14 rOb_0 dX14_readBytes_256 zw3111 rfl rfl (Nat.le_of_ble_eq_true rfl) (Nat.le_of_ble_eq_true rfl) (Nat.le_of_ble_eq_true rfl) (Nat.le_of_ble_eq_true rfl) (Nat.le_of_ble_eq_true rfl) (kk := fun s256 Ws256 qs256 => ?_)
                have h := h s256 Ws256 (TPRp.keep qs256.1 rfl rfl rfl) (qs256.1.R rfl) (qs256.1.F rfl) (qs256.1.F rfl) (qs256.1.F rfl) (qs256.1.F rfl) (fun i => qs256.1.A (f := 26) (by decide) rfl) qs256.2
                refine z_aload_n hC (pc := 259) 1 dX14_readBytes_259 rfl rfl ?_
                refine z_dup hC (pc := 260) dX14_readBytes_260 rfl ?_
                refine y_get hC (pc := 261) zf14 rOb_0 29 (v := iv ((rF s170 0 29) + 1)) dX14_readBytes_261 zw2496 (rv_i (Or.inl rfl) ((qs256.1.F rfl).trans (F_sF _ _ _ _))) (kk := ?_)
                refine z_iconst hC (pc := 264) (v := Int32.ofInt 1) dX14_readBytes_264 (by decide) ?_
                refine y_iadd hC (pc := 265) (v := (((rF s170 0 29) + 1) + 1)) dX14_readBytes_265 rfl ?_
                obtain ⟨r28, h⟩ := h
                refine y_putI hC (pc := 266) zf14 rOb_0 29 (x := (((rF s170 0 29) + 1) + 1)) dX14_readBytes_266 zw2496 (Or.inl rfl) rfl rfl (kk := ?_)
                have W29 := Ws256.sF (q := 0) (f := 29) (x := (((rF s170 0 29) + 1) + 1)) r28
                refine z_goto hC (pc := 269) 170 dX14_readBytes_269 (by decide) ?_
                refine z_lvs [1, 2] rfl ?_
                obtain ⟨hI, hm⟩ := h
                exact ih170 (sF s256 0 29 (((rF s170 0 29) + 1) + 1))  W29  (rKeep.tr (rKeep.tr (rKeep.tr (rKeep.tr rKeep.rf kJ rfl rfl rfl rfl rfl) (rKeep.sF0 (f := 29)) rfl rfl rfl rfl rfl) qs256.1 rfl rfl rfl rfl rfl) (rKeep.sF0 (f := 29)) rfl rfl rfl rfl rfl) hI (by omega)
            · have h := hF c
              refine z_bipush hC (pc := 237) (v := Int32.ofInt 10) dX14_readBytes_237 (by decide) ?_
              refine z_goto hC (pc := 239) 255 dX14_readBytes_239 (by decide) ?_
              refine z_iload_n hC (pc := 255) 2 dX14_readBytes_255 rfl rfl ?_
              obtain ⟨p30, h⟩ := h
              refine y_callVv hC (pc := 256) (As := [iv 3, iv 10, iv x1]) (kX14_note_t l G κ (sF s170 0 29 ((rF s170 0 29) + 1)) 3 10 x1 gg W22 (r_lit rfl) (r_lit rfl) hx1 p30) dmX14_note zf14 rOb_0 dX14_readBytes_256 zw3111 rfl rfl (Nat.le_of_ble_eq_true rfl) (Nat.le_of_ble_eq_true rfl) (Nat.le_of_ble_eq_true rfl) (Nat.le_of_ble_eq_true rfl) (Nat.le_of_ble_eq_true rfl) (kk := fun s256 Ws256 qs256 => ?_)
              have h := h s256 Ws256 (TPRp.keep qs256.1 rfl rfl rfl) (qs256.1.R rfl) (qs256.1.F rfl) (qs256.1.F rfl) (qs256.1.F rfl) (qs256.1.F rfl) (fun i => qs256.1.A (f := 26) (by decide) rfl) qs256.2
              refine z_aload_n hC (pc := 259) 1 dX14_readBytes_259 rfl rfl ?_
              refine z_dup hC (pc := 260) dX14_readBytes_260 rfl ?_
              refine y_get hC (pc := 261) zf14 rOb_0 29 (v := iv ((rF s170 0 29) + 1)) dX14_readBytes_261 zw2496 (rv_i (Or.inl rfl) ((qs256.1.F rfl).trans (F_sF _ _ _ _))) (kk := ?_)
              refine z_iconst hC (pc := 264) (v := Int32.ofInt 1) dX14_readBytes_264 (by decide) ?_
              refine y_iadd hC (pc := 265) (v := (((rF s170 0 29) + 1) + 1)) dX14_readBytes_265 rfl ?_
              obtain ⟨r31, h⟩ := h
              refine y_putI hC (pc := 266) zf14 rOb_0 29 (x := (((rF s170 0 29) + 1) + 1)) dX14_readBytes_266 zw2496 (Or.inl rfl) rfl rfl (kk := ?_)
              have W32 := Ws256.sF (q := 0) (f := 29) (x := (((rF s170 0 29) + 1) + 1)) r31
              refine z_goto hC (pc := 269) 170 dX14_readBytes_269 (by decide) ?_
              refine z_lvs [1, 2] rfl ?_
              obtain ⟨hI, hm⟩ := h
              exact ih170 (sF s256 0 29 (((rF s170 0 29) + 1) + 1))  W32  (rKeep.tr (rKeep.tr (rKeep.tr (rKeep.tr rKeep.rf kJ rfl rfl rfl rfl rfl) (rKeep.sF0 (f := 29)) rfl rfl rfl rfl rfl) qs256.1 rfl rfl rfl rfl rfl) (rKeep.sF0 (f := 29)) rfl rfl rfl rfl rfl) hI (by omega)
          · have h := hF c
            refine z_iload_n hC (pc := 207) 0 dX14_readBytes_207 rfl rfl ?_
            refine z_bipush hC (pc := 208) (v := Int32.ofInt 116) dX14_readBytes_208 (by decide) ?_
            obtain ⟨hT, hF⟩ := h
            refine y_icmp_eq hC (pc := 210) 229 hv197 (r_lit rfl) dX14_readBytes_210 (by decide) (fun c => ?_) (fun c => ?_)
            · have h := hT c
              refine z_aload_n hC (pc := 229) 1 dX14_readBytes_229 rfl rfl ?_
              refine z_iconst hC (pc := 230) (v := Int32.ofInt 3) dX14_readBytes_230 (by decide) ?_
              refine z_iload_n hC (pc := 231) 0 dX14_readBytes_231 rfl rfl ?_
              refine z_bipush hC (pc := 232) (v := Int32.ofInt 110) dX14_readBytes_232 (by decide) ?_
              obtain ⟨hT, hF⟩ := h
              refine y_icmp_ne hC (pc := 234) 242 hv197 (r_lit rfl) dX14_readBytes_234 (by decide) (fun c => ?_) (fun c => ?_)
              · have h := hT c
                refine z_iload_n hC (pc := 242) 0 dX14_readBytes_242 rfl rfl ?_
                refine z_bipush hC (pc := 243) (v := Int32.ofInt 116) dX14_readBytes_243 (by decide) ?_
                obtain ⟨hT, hF⟩ := h
                refine y_icmp_ne hC (pc := 245) 253 hv197 (r_lit rfl) dX14_readBytes_245 (by decide) (fun c => ?_) (fun c => ?_)
                · have h := hT c
                  refine z_bipush hC (pc := 253) (v := Int32.ofInt 32) dX14_readBytes_253 (by decide) ?_
                  refine z_iload_n hC (pc := 255) 2 dX14_readBytes_255 rfl rfl ?_
                  obtain ⟨p33, h⟩ := h
                  refine y_callVv hC (pc := 256) (As := [iv 3, iv 32, iv x1]) (kX14_note_t l G κ (sF s170 0 29 ((rF s170 0 29) + 1)) 3 32 x1 gg W22 (r_lit rfl) (r_lit rfl) hx1 p33) dmX14_note zf14 rOb_0 dX14_readBytes_256 zw3111 rfl rfl (Nat.le_of_ble_eq_true rfl) (Nat.le_of_ble_eq_true rfl) (Nat.le_of_ble_eq_true rfl) (Nat.le_of_ble_eq_true rfl) (Nat.le_of_ble_eq_true rfl) (kk := fun s256 Ws256 qs256 => ?_)
                  have h := h s256 Ws256 (TPRp.keep qs256.1 rfl rfl rfl) (qs256.1.R rfl) (qs256.1.F rfl) (qs256.1.F rfl) (qs256.1.F rfl) (qs256.1.F rfl) (fun i => qs256.1.A (f := 26) (by decide) rfl) qs256.2
                  refine z_aload_n hC (pc := 259) 1 dX14_readBytes_259 rfl rfl ?_
                  refine z_dup hC (pc := 260) dX14_readBytes_260 rfl ?_
                  refine y_get hC (pc := 261) zf14 rOb_0 29 (v := iv ((rF s170 0 29) + 1)) dX14_readBytes_261 zw2496 (rv_i (Or.inl rfl) ((qs256.1.F rfl).trans (F_sF _ _ _ _))) (kk := ?_)
                  refine z_iconst hC (pc := 264) (v := Int32.ofInt 1) dX14_readBytes_264 (by decide) ?_
                  refine y_iadd hC (pc := 265) (v := (((rF s170 0 29) + 1) + 1)) dX14_readBytes_265 rfl ?_
                  obtain ⟨r34, h⟩ := h
                  refine y_putI hC (pc := 266) zf14 rOb_0 29 (x := (((rF s170 0 29) + 1) + 1)) dX14_readBytes_266 zw2496 (Or.inl rfl) rfl rfl (kk := ?_)
                  have W35 := Ws256.sF (q := 0) (f := 29) (x := (((rF s170 0 29) + 1) + 1)) r34
                  refine z_goto hC (pc := 269) 170 dX14_readBytes_269 (by decide) ?_
                  refine z_lvs [1, 2] rfl ?_
                  obtain ⟨hI, hm⟩ := h
                  exact ih170 (sF s256 0 29 (((rF s170 0 29) + 1) + 1))  W35  (rKeep.tr (rKeep.tr (rKeep.tr (rKeep.tr rKeep.rf kJ rfl rfl rfl rfl rfl) (rKeep.sF0 (f := 29)) rfl rfl rfl rfl rfl) qs256.1 rfl rfl rfl rfl rfl) (rKeep.sF0 (f := 29)) rfl rfl rfl rfl rfl) hI (by omega)
                · have h := hF c
                  refine z_bipush hC (pc := 248) (v := Int32.ofInt 9) dX14_readBytes_248 (by decide) ?_
                  refine z_goto hC (pc := 250) 255 dX14_readBytes_250 (by decide) ?_
                  refine z_iload_n hC (pc := 255) 2 dX14_readBytes_255 rfl rfl ?_
                  obtain ⟨p36, h⟩ := h
                  refine y_callVv hC (pc := 256) (As := [iv 3, iv 9, iv x1]) (kX14_note_t l G κ (sF s170 0 29 ((rF s170 0 29) + 1)) 3 9 x1 gg W22 (r_lit rfl) (r_lit rfl) hx1 p36) dmX14_note zf14 rOb_0 dX14_readBytes_256 zw3111 rfl rfl (Nat.le_of_ble_eq_true rfl) (Nat.le_of_ble_eq_true rfl) (Nat.le_of_ble_eq_true rfl) (Nat.le_of_ble_eq_true rfl) (Nat.le_of_ble_eq_true rfl) (kk := fun s256 Ws256 qs256 => ?_)
                  have h := h s256 Ws256 (TPRp.keep qs256.1 rfl rfl rfl) (qs256.1.R rfl) (qs256.1.F rfl) (qs256.1.F rfl) (qs256.1.F rfl) (qs256.1.F rfl) (fun i => qs256.1.A (f := 26) (by decide) rfl) qs256.2
                  refine z_aload_n hC (pc := 259) 1 dX14_readBytes_259 rfl rfl ?_
                  refine z_dup hC (pc := 260) dX14_readBytes_260 rfl ?_
                  refine y_get hC (pc := 261) zf14 rOb_0 29 (v := iv ((rF s170 0 29) + 1)) dX14_readBytes_261 zw2496 (rv_i (Or.inl rfl) ((qs256.1.F rfl).trans (F_sF _ _ _ _))) (kk := ?_)
                  refine z_iconst hC (pc := 264) (v := Int32.ofInt 1) dX14_readBytes_264 (by decide) ?_
                  refine y_iadd hC (pc := 265) (v := (((rF s170 0 29) + 1) + 1)) dX14_readBytes_265 rfl ?_
                  obtain ⟨r37, h⟩ := h
                  refine y_putI hC (pc := 266) zf14 rOb_0 29 (x := (((rF s170 0 29) + 1) + 1)) dX14_readBytes_266 zw2496 (Or.inl rfl) rfl rfl (kk := ?_)
                  have W38 := Ws256.sF (q := 0) (f := 29) (x := (((rF s170 0 29) + 1) + 1)) r37
                  refine z_goto hC (pc := 269) 170 dX14_readBytes_269 (by decide) ?_
                  refine z_lvs [1, 2] rfl ?_
                  obtain ⟨hI, hm⟩ := h
                  exact ih170 (sF s256 0 29 (((rF s170 0 29) + 1) + 1))  W38  (rKeep.tr (rKeep.tr (rKeep.tr (rKeep.tr rKeep.rf kJ rfl rfl rfl rfl rfl) (rKeep.sF0 (f := 29)) rfl rfl rfl rfl rfl) qs256.1 rfl rfl rfl rfl rfl) (rKeep.sF0 (f := 29)) rfl rfl rfl rfl rfl) hI (by omega)
              · have h := hF c
                refine z_bipush hC (pc := 237) (v := Int32.ofInt 10) dX14_readBytes_237 (by decide) ?_
                refine z_goto hC (pc := 239) 255 dX14_readBytes_239 (by decide) ?_
                refine z_iload_n hC (pc := 255) 2 dX14_readBytes_255 rfl rfl ?_
                obtain ⟨p39, h⟩ := h
                refine y_callVv hC (pc := 256) (As := [iv 3, iv 10, iv x1]) (kX14_note_t l G κ (sF s170 0 29 ((rF s170 0 29) + 1)) 3 10 x1 gg W22 (r_lit rfl) (r_lit rfl) hx1 p39) dmX14_note zf14 rOb_0 dX14_readBytes_256 zw3111 rfl rfl (Nat.le_of_ble_eq_true rfl) (Nat.le_of_ble_eq_true rfl) (Nat.le_of_ble_eq_true rfl) (Nat.le_of_ble_eq_true rfl) (Nat.le_of_ble_eq_true rfl) (kk := fun s256 Ws256 qs256 => ?_)
                have h := h s256 Ws256 (TPRp.keep qs256.1 rfl rfl rfl) (qs256.1.R rfl) (qs256.1.F rfl) (qs256.1.F rfl) (qs256.1.F rfl) (qs256.1.F rfl) (fun i => qs256.1.A (f := 26) (by decide) rfl) qs256.2
                refine z_aload_n hC (pc := 259) 1 dX14_readBytes_259 rfl rfl ?_
                refine z_dup hC (pc := 260) dX14_readBytes_260 rfl ?_
                refine y_get hC (pc := 261) zf14 rOb_0 29 (v := iv ((rF s170 0 29) + 1)) dX14_readBytes_261 zw2496 (rv_i (Or.inl rfl) ((qs256.1.F rfl).trans (F_sF _ _ _ _))) (kk := ?_)
                refine z_iconst hC (pc := 264) (v := Int32.ofInt 1) dX14_readBytes_264 (by decide) ?_
                refine y_iadd hC (pc := 265) (v := (((rF s170 0 29) + 1) + 1)) dX14_readBytes_265 rfl ?_
                obtain ⟨r40, h⟩ := h
                refine y_putI hC (pc := 266) zf14 rOb_0 29 (x := (((rF s170 0 29) + 1) + 1)) dX14_readBytes_266 zw2496 (Or.inl rfl) rfl rfl (kk := ?_)
                have W41 := Ws256.sF (q := 0) (f := 29) (x := (((rF s170 0 29) + 1) + 1)) r40
                refine z_goto hC (pc := 269) 170 dX14_readBytes_269 (by decide) ?_
                refine z_lvs [1, 2] rfl ?_
                obtain ⟨hI, hm⟩ := h
                exact ih170 (sF s256 0 29 (((rF s170 0 29) + 1) + 1))  W41  (rKeep.tr (rKeep.tr (rKeep.tr (rKeep.tr rKeep.rf kJ rfl rfl rfl rfl rfl) (rKeep.sF0 (f := 29)) rfl rfl rfl rfl rfl) qs256.1 rfl rfl rfl rfl rfl) (rKeep.sF0 (f := 29)) rfl rfl rfl rfl rfl) hI (by omega)
            · have h := hF c
              refine z_iload_n hC (pc := 213) 0 dX14_readBytes_213 rfl rfl ?_
              refine z_bipush hC (pc := 214) (v := Int32.ofInt 32) dX14_readBytes_214 (by decide) ?_
              obtain ⟨hT, hF⟩ := h
              refine y_icmp_eq hC (pc := 216) 229 hv197 (r_lit rfl) dX14_readBytes_216 (by decide) (fun c => ?_) (fun c => ?_)
              · have h := hT c
                refine z_aload_n hC (pc := 229) 1 dX14_readBytes_229 rfl rfl ?_
                refine z_iconst hC (pc := 230) (v := Int32.ofInt 3) dX14_readBytes_230 (by decide) ?_
                refine z_iload_n hC (pc := 231) 0 dX14_readBytes_231 rfl rfl ?_
                refine z_bipush hC (pc := 232) (v := Int32.ofInt 110) dX14_readBytes_232 (by decide) ?_
                obtain ⟨hT, hF⟩ := h
                refine y_icmp_ne hC (pc := 234) 242 hv197 (r_lit rfl) dX14_readBytes_234 (by decide) (fun c => ?_) (fun c => ?_)
                · have h := hT c
                  refine z_iload_n hC (pc := 242) 0 dX14_readBytes_242 rfl rfl ?_
                  refine z_bipush hC (pc := 243) (v := Int32.ofInt 116) dX14_readBytes_243 (by decide) ?_
                  obtain ⟨hT, hF⟩ := h
                  refine y_icmp_ne hC (pc := 245) 253 hv197 (r_lit rfl) dX14_readBytes_245 (by decide) (fun c => ?_) (fun c => ?_)
                  · have h := hT c
                    refine z_bipush hC (pc := 253) (v := Int32.ofInt 32) dX14_readBytes_253 (by decide) ?_
                    refine z_iload_n hC (pc := 255) 2 dX14_readBytes_255 rfl rfl ?_
                    obtain ⟨p42, h⟩ := h
                    refine y_callVv hC (pc := 256) (As := [iv 3, iv 32, iv x1]) (kX14_note_t l G κ (sF s170 0 29 ((rF s170 0 29) + 1)) 3 32 x1 gg W22 (r_lit rfl) (r_lit rfl) hx1 p42) dmX14_note zf14 rOb_0 dX14_readBytes_256 zw3111 rfl rfl (Nat.le_of_ble_eq_true rfl) (Nat.le_of_ble_eq_true rfl) (Nat.le_of_ble_eq_true rfl) (Nat.le_of_ble_eq_true rfl) (Nat.le_of_ble_eq_true rfl) (kk := fun s256 Ws256 qs256 => ?_)
                    have h := h s256 Ws256 (TPRp.keep qs256.1 rfl rfl rfl) (qs256.1.R rfl) (qs256.1.F rfl) (qs256.1.F rfl) (qs256.1.F rfl) (qs256.1.F rfl) (fun i => qs256.1.A (f := 26) (by decide) rfl) qs256.2
                    refine z_aload_n hC (pc := 259) 1 dX14_readBytes_259 rfl rfl ?_
                    refine z_dup hC (pc := 260) dX14_readBytes_260 rfl ?_
                    refine y_get hC (pc := 261) zf14 rOb_0 29 (v := iv ((rF s170 0 29) + 1)) dX14_readBytes_261 zw2496 (rv_i (Or.inl rfl) ((qs256.1.F rfl).trans (F_sF _ _ _ _))) (kk := ?_)
                    refine z_iconst hC (pc := 264) (v := Int32.ofInt 1) dX14_readBytes_264 (by decide) ?_
                    refine y_iadd hC (pc := 265) (v := (((rF s170 0 29) + 1) + 1)) dX14_readBytes_265 rfl ?_
                    obtain ⟨r43, h⟩ := h
                    refine y_putI hC (pc := 266) zf14 rOb_0 29 (x := (((rF s170 0 29) + 1) + 1)) dX14_readBytes_266 zw2496 (Or.inl rfl) rfl rfl (kk := ?_)
                    have W44 := Ws256.sF (q := 0) (f := 29) (x := (((rF s170 0 29) + 1) + 1)) r43
                    refine z_goto hC (pc := 269) 170 dX14_readBytes_269 (by decide) ?_
                    refine z_lvs [1, 2] rfl ?_
                    obtain ⟨hI, hm⟩ := h
                    exact ih170 (sF s256 0 29 (((rF s170 0 29) + 1) + 1))  W44  (rKeep.tr (rKeep.tr (rKeep.tr (rKeep.tr rKeep.rf kJ rfl rfl rfl rfl rfl) (rKeep.sF0 (f := 29)) rfl rfl rfl rfl rfl) qs256.1 rfl rfl rfl rfl rfl) (rKeep.sF0 (f := 29)) rfl rfl rfl rfl rfl) hI (by omega)
                  · have h := hF c
                    refine z_bipush hC (pc := 248) (v := Int32.ofInt 9) dX14_readBytes_248 (by decide) ?_
                    refine z_goto hC (pc := 250) 255 dX14_readBytes_250 (by decide) ?_
                    refine z_iload_n hC (pc := 255) 2 dX14_readBytes_255 rfl rfl ?_
                    obtain ⟨p45, h⟩ := h
                    refine y_callVv hC (pc := 256) (As := [iv 3, iv 9, iv x1]) (kX14_note_t l G κ (sF s170 0 29 ((rF s170 0 29) + 1)) 3 9 x1 gg W22 (r_lit rfl) (r_lit rfl) hx1 p45) dmX14_note zf14 rOb_0 dX14_readBytes_256 zw3111 rfl rfl (Nat.le_of_ble_eq_true rfl) (Nat.le_of_ble_eq_true rfl) (Nat.le_of_ble_eq_true rfl) (Nat.le_of_ble_eq_true rfl) (Nat.le_of_ble_eq_true rfl) (kk := fun s256 Ws256 qs256 => ?_)
                    have h := h s256 Ws256 (TPRp.keep qs256.1 rfl rfl rfl) (qs256.1.R rfl) (qs256.1.F rfl) (qs256.1.F rfl) (qs256.1.F rfl) (qs256.1.F rfl) (fun i => qs256.1.A (f := 26) (by decide) rfl) qs256.2
                    refine z_aload_n hC (pc := 259) 1 dX14_readBytes_259 rfl rfl ?_
                    refine z_dup hC (pc := 260) dX14_readBytes_260 rfl ?_
                    refine y_get hC (pc := 261) zf14 rOb_0 29 (v := iv ((rF s170 0 29) + 1)) dX14_readBytes_261 zw2496 (rv_i (Or.inl rfl) ((qs256.1.F rfl).trans (F_sF _ _ _ _))) (kk := ?_)
                    refine z_iconst hC (pc := 264) (v := Int32.ofInt 1) dX14_readBytes_264 (by decide) ?_
                    refine y_iadd hC (pc := 265) (v := (((rF s170 0 29) + 1) + 1)) dX14_readBytes_265 rfl ?_
                    obtain ⟨r46, h⟩ := h
                    refine y_putI hC (pc := 266) zf14 rOb_0 29 (x := (((rF s170 0 29) + 1) + 1)) dX14_readBytes_266 zw2496 (Or.inl rfl) rfl rfl (kk := ?_)
                    have W47 := Ws256.sF (q := 0) (f := 29) (x := (((rF s170 0 29) + 1) + 1)) r46
                    refine z_goto hC (pc := 269) 170 dX14_readBytes_269 (by decide) ?_
                    refine z_lvs [1, 2] rfl ?_
                    obtain ⟨hI, hm⟩ := h
                    exact ih170 (sF s256 0 29 (((rF s170 0 29) + 1) + 1))  W47  (rKeep.tr (rKeep.tr (rKeep.tr (rKeep.tr rKeep.rf kJ rfl rfl rfl rfl rfl) (rKeep.sF0 (f := 29)) rfl rfl rfl rfl rfl) qs256.1 rfl rfl rfl rfl rfl) (rKeep.sF0 (f := 29)) rfl rfl rfl rfl rfl) hI (by omega)
                · have h := hF c
                  refine z_bipush hC (pc := 237) (v := Int32.ofInt 10) dX14_readBytes_237 (by decide) ?_
                  refine z_goto hC (pc := 239) 255 dX14_readBytes_239 (by decide) ?_
                  refine z_iload_n hC (pc := 255) 2 dX14_readBytes_255 rfl rfl ?_
                  obtain ⟨p48, h⟩ := h
                  refine y_callVv hC (pc := 256) (As := [iv 3, iv 10, iv x1]) (kX14_note_t l G κ (sF s170 0 29 ((rF s170 0 29) + 1)) 3 10 x1 gg W22 (r_lit rfl) (r_lit rfl) hx1 p48) dmX14_note zf14 rOb_0 dX14_readBytes_256 zw3111 rfl rfl (Nat.le_of_ble_eq_true rfl) (Nat.le_of_ble_eq_true rfl) (Nat.le_of_ble_eq_true rfl) (Nat.le_of_ble_eq_true rfl) (Nat.le_of_ble_eq_true rfl) (kk := fun s256 Ws256 qs256 => ?_)
                  have h := h s256 Ws256 (TPRp.keep qs256.1 rfl rfl rfl) (qs256.1.R rfl) (qs256.1.F rfl) (qs256.1.F rfl) (qs256.1.F rfl) (qs256.1.F rfl) (fun i => qs256.1.A (f := 26) (by decide) rfl) qs256.2
                  refine z_aload_n hC (pc := 259) 1 dX14_readBytes_259 rfl rfl ?_
                  refine z_dup hC (pc := 260) dX14_readBytes_260 rfl ?_
                  refine y_get hC (pc := 261) zf14 rOb_0 29 (v := iv ((rF s170 0 29) + 1)) dX14_readBytes_261 zw2496 (rv_i (Or.inl rfl) ((qs256.1.F rfl).trans (F_sF _ _ _ _))) (kk := ?_)
                  refine z_iconst hC (pc := 264) (v := Int32.ofInt 1) dX14_readBytes_264 (by decide) ?_
                  refine y_iadd hC (pc := 265) (v := (((rF s170 0 29) + 1) + 1)) dX14_readBytes_265 rfl ?_
                  obtain ⟨r49, h⟩ := h
                  refine y_putI hC (pc := 266) zf14 rOb_0 29 (x := (((rF s170 0 29) + 1) + 1)) dX14_readBytes_266 zw2496 (Or.inl rfl) rfl rfl (kk := ?_)
                  have W50 := Ws256.sF (q := 0) (f := 29) (x := (((rF s170 0 29) + 1) + 1)) r49
                  refine z_goto hC (pc := 269) 170 dX14_readBytes_269 (by decide) ?_
                  refine z_lvs [1, 2] rfl ?_
                  obtain ⟨hI, hm⟩ := h
                  exact ih170 (sF s256 0 29 (((rF s170 0 29) + 1) + 1))  W50  (rKeep.tr (rKeep.tr (rKeep.tr (rKeep.tr rKeep.rf kJ rfl rfl rfl rfl rfl) (rKeep.sF0 (f := 29)) rfl rfl rfl rfl rfl) qs256.1 rfl rfl rfl rfl rfl) (rKeep.sF0 (f := 29)) rfl rfl rfl rfl rfl) hI (by omega)
              · have h := hF c
                refine z_aload_n hC (pc := 219) 1 dX14_readBytes_219 rfl rfl ?_
                refine z_iconst hC (pc := 220) (v := Int32.ofInt 1) dX14_readBytes_220 (by decide) ?_
                refine z_aload_n hC (pc := 221) 1 dX14_readBytes_221 rfl rfl ?_
                obtain ⟨p51, h⟩ := h
                refine y_callVi hC (pc := 222) (As := []) (kX14_place l G κ (sF s170 0 29 ((rF s170 0 29) + 1))  W22  p51) dmX14_place zf14 rOb_0 dX14_readBytes_222 zw3103 rfl rfl (Nat.le_of_ble_eq_true rfl) (Nat.le_of_ble_eq_true rfl) (Nat.le_of_ble_eq_true rfl) (Nat.le_of_ble_eq_true rfl) (Nat.le_of_ble_eq_true rfl) (kk := fun v222 s222 hv222 Ws222 qs222 => ?_)
                obtain ⟨es222, qs222⟩ := qs222
                have es222 := es222.symm
                subst es222
                have h := h v222 hv222 qs222
                obtain ⟨p52, h⟩ := h
                refine y_callVv hC (pc := 225) (As := [iv 1, iv v222]) (kX14_bad l G κ (sF s170 0 29 ((rF s170 0 29) + 1)) 1 v222 W22 (r_lit rfl) hv222 p52) dmX14_bad zf14 rOb_0 dX14_readBytes_225 zw3000 rfl rfl (Nat.le_of_ble_eq_true rfl) (Nat.le_of_ble_eq_true rfl) (Nat.le_of_ble_eq_true rfl) (Nat.le_of_ble_eq_true rfl) (Nat.le_of_ble_eq_true rfl) (kk := fun s225 Ws225 qs225 => ?_)
                have h := h s225 Ws225 (TPRp.keep qs225.1 rfl rfl rfl) (WNp.keep qs225.1 rfl rfl rfl rfl rfl) (qs225.1.R rfl) (qs225.1.F rfl) (qs225.1.F rfl) (qs225.1.F rfl) (qs225.1.F rfl) (fun i => qs225.1.A (f := 26) (by decide) rfl) (fun i => qs225.1.A (f := 34) (by decide) rfl) (fun i => qs225.1.A (f := 35) (by decide) rfl) (fun i => qs225.1.A (f := 37) (by decide) rfl) (RG.keep (c0 := 0) qs225.1 rfl rfl rfl rfl rfl rfl rfl rfl rfl rfl rfl rfl rfl rfl rfl rfl rfl rfl) qs225.2
                exact y_retv hR dX14_readBytes_228 Ws225 (Nat.le_of_ble_eq_true rfl) (Nat.le_of_ble_eq_true rfl) ⟨(rKeep.tr (rKeep.tr (rKeep.tr rKeep.rf kJ rfl rfl rfl rfl rfl) (rKeep.sF0 (f := 29)) rfl rfl rfl rfl rfl) qs225.1 rfl rfl rfl rfl rfl), h⟩
  obtain ⟨r53, h⟩ := h
  obtain ⟨hT, hF⟩ := h
  refine y_icmp_ge hC (pc := 10) 170 r53 (hwf.f _ _) dX14_readBytes_10 (by decide) (fun c => ?_) (fun c => ?_)
  · have h := hT c
    exact j170 _ σ  hwf  rKeep.rf h (Nat.le_refl _)
  · have h := hF c
    refine z_aload_n hC (pc := 13) 0 dX14_readBytes_13 rfl rfl ?_
    refine y_get hC (pc := 14) zf14 rOb_0 26 (v := .ref (κ 1026)) dX14_readBytes_14 zw2493 (rv_c rfl) (kk := ?_)
    refine z_aload_n hC (pc := 17) 0 dX14_readBytes_17 rfl rfl ?_
    refine y_get hC (pc := 18) zf14 rOb_0 29 (v := iv (rF σ 0 29)) dX14_readBytes_18 zw2496 (rv_i (Or.inl rfl) rfl) (kk := ?_)
    refine z_iconst hC (pc := 21) (v := Int32.ofInt 1) dX14_readBytes_21 (by decide) ?_
    refine y_iadd hC (pc := 22) (v := ((rF σ 0 29) + 1)) dX14_readBytes_22 rfl ?_
    obtain ⟨b54, h⟩ := h
    refine y_bald hC (pc := 23) (rAr_m rfl) dX14_readBytes_23 b54 (v := (rA σ 1026 ((rF σ 0 29) + 1))) rfl (kk := ?_)
    have h := h (hwf.a _ _)
    refine z_bipush hC (pc := 24) (v := Int32.ofInt 92) dX14_readBytes_24 (by decide) ?_
    obtain ⟨hT, hF⟩ := h
    refine y_icmp_ne hC (pc := 26) 170 (hwf.a _ _) (r_lit rfl) dX14_readBytes_26 (by decide) (fun c => ?_) (fun c => ?_)
    · have h := hT c
      exact j170 _ σ  hwf  rKeep.rf h (Nat.le_refl _)
    · have h := hF c
      refine z_aload_n hC (pc := 29) 0 dX14_readBytes_29 rfl rfl ?_
      refine z_dup hC (pc := 30) dX14_readBytes_30 rfl ?_
      refine y_get hC (pc := 31) zf14 rOb_0 29 (v := iv (rF σ 0 29)) dX14_readBytes_31 zw2496 (rv_i (Or.inl rfl) rfl) (kk := ?_)
      refine z_iconst hC (pc := 34) (v := Int32.ofInt 2) dX14_readBytes_34 (by decide) ?_
      refine y_iadd hC (pc := 35) (v := ((rF σ 0 29) + 2)) dX14_readBytes_35 rfl ?_
      obtain ⟨r55, h⟩ := h
      refine y_putI hC (pc := 36) zf14 rOb_0 29 (x := ((rF σ 0 29) + 2)) dX14_readBytes_36 zw2496 (Or.inl rfl) rfl rfl (kk := ?_)
      have W56 := hwf.sF (q := 0) (f := 29) (x := ((rF σ 0 29) + 2)) r55
      refine z_aload_n hC (pc := 39) 0 dX14_readBytes_39 rfl rfl ?_
      obtain ⟨p57, h⟩ := h
      refine y_callVi hC (pc := 40) (As := []) (kX14_here l G κ (sF σ 0 29 ((rF σ 0 29) + 2))  W56  p57) dmX14_here zf14 rOb_0 dX14_readBytes_40 zw3099 rfl rfl (Nat.le_of_ble_eq_true rfl) (Nat.le_of_ble_eq_true rfl) (Nat.le_of_ble_eq_true rfl) (Nat.le_of_ble_eq_true rfl) (Nat.le_of_ble_eq_true rfl) (kk := fun v40 s40 hv40 Ws40 qs40 => ?_)
      obtain ⟨es40, qs40⟩ := qs40
      have es40 := es40.symm
      subst es40
      have h := h v40 hv40 qs40
      refine z_aload_n hC (pc := 43) 0 dX14_readBytes_43 rfl rfl ?_
      refine y_get hC (pc := 44) zf14 rOb_0 19 (v := iv (rF σ 0 19)) dX14_readBytes_44 zw2486 (rv_i (Or.inl rfl) ((F_sF_ne (by decide)).trans rfl)) (kk := ?_)
      have h := h (hwf.f _ _)
      obtain ⟨hT, hF⟩ := h
      refine y_icmp_eq hC (pc := 47) 60 hv40 (hwf.f _ _) dX14_readBytes_47 (by decide) (fun c => ?_) (fun c => ?_)
      · have h := hT c
        refine z_aload_n hC (pc := 60) 0 dX14_readBytes_60 rfl rfl ?_
        refine z_dup hC (pc := 61) dX14_readBytes_61 rfl ?_
        refine y_get hC (pc := 62) zf14 rOb_0 29 (v := iv ((rF σ 0 29) + 2)) dX14_readBytes_62 zw2496 (rv_i (Or.inl rfl) (F_sF _ _ _ _)) (kk := ?_)
        refine z_iconst hC (pc := 65) (v := Int32.ofInt 1) dX14_readBytes_65 (by decide) ?_
        refine y_iadd hC (pc := 66) (v := (((rF σ 0 29) + 2) + 1)) dX14_readBytes_66 rfl ?_
        obtain ⟨r58, h⟩ := h
        refine y_putI hC (pc := 67) zf14 rOb_0 29 (x := (((rF σ 0 29) + 2) + 1)) dX14_readBytes_67 zw2496 (Or.inl rfl) rfl rfl (kk := ?_)
        have W59 := W56.sF (q := 0) (f := 29) (x := (((rF σ 0 29) + 2) + 1)) r58
        have j70 : ∀ (d70 : Nat), ∀ (s70 : rS) , rWF s70 → rKeep 0x4020001c00 0 0x3c00000000 0 0 σ s70 → inv_X14_readBytes_t_70 σ x1 gg s70 → (mu_X14_readBytes_t_70 σ x1 gg s70 ) ≤ d70 → zS X G 3 (rW G κ s70) [(0, .ref (κ 0)), (1, iv x1)] 0 0 70 [] := by
          intro d70
          induction d70 with
          | zero =>
            intro s70 Ws70 kJ hI hmu
            exact absurd hmu (by have := h_70m  s70  Ws70  (TPRp.keep kJ rfl rfl rfl) (kJ.R rfl) (kJ.F rfl) (kJ.F rfl) (fun i => kJ.A (f := 26) (by decide) rfl) hI; omega)
          | succ d70 ih70 =>
            intro s70 Ws70 kJ hI hmu70
            have h := h_70  s70  Ws70  (TPRp.keep kJ rfl rfl rfl) (kJ.R rfl) (kJ.F rfl) (kJ.F rfl) (fun i => kJ.A (f := 26) (by decide) rfl) hI
            refine z_aload_n hC (pc := 70) 0 dX14_readBytes_70 rfl rfl ?_
            obtain ⟨p60, h⟩ := h
            refine y_callVi hC (pc := 71) (As := []) (kX14_here l G κ s70  Ws70  p60) dmX14_here zf14 rOb_0 dX14_readBytes_71 zw3099 rfl rfl (Nat.le_of_ble_eq_true rfl) (Nat.le_of_ble_eq_true rfl) (Nat.le_of_ble_eq_true rfl) (Nat.le_of_ble_eq_true rfl) (Nat.le_of_ble_eq_true rfl) (kk := fun v71 s71 hv71 Ws71 qs71 => ?_)
            obtain ⟨es71, qs71⟩ := qs71
            have es71 := es71.symm
            subst es71
            have h := h v71 hv71 qs71
            refine z_bipush hC (pc := 74) (v := Int32.ofInt 32) dX14_readBytes_74 (by decide) ?_
            obtain ⟨hT, hF⟩ := h
            refine y_icmp_eq hC (pc := 76) 88 hv71 (r_lit rfl) dX14_readBytes_76 (by decide) (fun c => ?_) (fun c => ?_)
            · have h := hT c
              refine z_aload_n hC (pc := 88) 0 dX14_readBytes_88 rfl rfl ?_
              refine z_dup hC (pc := 89) dX14_readBytes_89 rfl ?_
              refine y_get hC (pc := 90) zf14 rOb_0 29 (v := iv (rF s70 0 29)) dX14_readBytes_90 zw2496 (rv_i (Or.inl rfl) rfl) (kk := ?_)
              have h := h (Ws70.f _ _)
              refine z_iconst hC (pc := 93) (v := Int32.ofInt 1) dX14_readBytes_93 (by decide) ?_
              refine y_iadd hC (pc := 94) (v := ((rF s70 0 29) + 1)) dX14_readBytes_94 rfl ?_
              obtain ⟨r61, h⟩ := h
              refine y_putI hC (pc := 95) zf14 rOb_0 29 (x := ((rF s70 0 29) + 1)) dX14_readBytes_95 zw2496 (Or.inl rfl) rfl rfl (kk := ?_)
              have W62 := Ws70.sF (q := 0) (f := 29) (x := ((rF s70 0 29) + 1)) r61
              refine z_goto hC (pc := 98) 70 dX14_readBytes_98 (by decide) ?_
              obtain ⟨hI, hm⟩ := h
              exact ih70 (sF s70 0 29 ((rF s70 0 29) + 1))  W62  (rKeep.tr (rKeep.tr rKeep.rf kJ rfl rfl rfl rfl rfl) (rKeep.sF0 (f := 29)) rfl rfl rfl rfl rfl) hI (by omega)
            · have h := hF c
              refine z_aload_n hC (pc := 79) 0 dX14_readBytes_79 rfl rfl ?_
              obtain ⟨p63, h⟩ := h
              refine y_callVi hC (pc := 80) (As := []) (kX14_here l G κ s70  Ws70  p63) dmX14_here zf14 rOb_0 dX14_readBytes_80 zw3099 rfl rfl (Nat.le_of_ble_eq_true rfl) (Nat.le_of_ble_eq_true rfl) (Nat.le_of_ble_eq_true rfl) (Nat.le_of_ble_eq_true rfl) (Nat.le_of_ble_eq_true rfl) (kk := fun v80 s80 hv80 Ws80 qs80 => ?_)
              obtain ⟨es80, qs80⟩ := qs80
              have es80 := es80.symm
              subst es80
              have h := h v80 hv80 qs80
              refine z_bipush hC (pc := 83) (v := Int32.ofInt 9) dX14_readBytes_83 (by decide) ?_
              obtain ⟨hT, hF⟩ := h
              refine y_icmp_ne hC (pc := 85) 101 hv80 (r_lit rfl) dX14_readBytes_85 (by decide) (fun c => ?_) (fun c => ?_)
              · have h := hT c
                refine z_aload_n hC (pc := 101) 0 dX14_readBytes_101 rfl rfl ?_
                obtain ⟨p64, h⟩ := h
                refine y_callVi hC (pc := 102) (As := []) (kX14_here l G κ s70  Ws70  p64) dmX14_here zf14 rOb_0 dX14_readBytes_102 zw3099 rfl rfl (Nat.le_of_ble_eq_true rfl) (Nat.le_of_ble_eq_true rfl) (Nat.le_of_ble_eq_true rfl) (Nat.le_of_ble_eq_true rfl) (Nat.le_of_ble_eq_true rfl) (kk := fun v102 s102 hv102 Ws102 qs102 => ?_)
                obtain ⟨es102, qs102⟩ := qs102
                have es102 := es102.symm
                subst es102
                have h := h v102 hv102 qs102
                refine z_bipush hC (pc := 105) (v := Int32.ofInt 10) dX14_readBytes_105 (by decide) ?_
                obtain ⟨hT, hF⟩ := h
                refine y_icmp_eq hC (pc := 107) 120 hv102 (r_lit rfl) dX14_readBytes_107 (by decide) (fun c => ?_) (fun c => ?_)
                · have h := hT c
                  refine z_aload_n hC (pc := 120) 0 dX14_readBytes_120 rfl rfl ?_
                  refine z_dup hC (pc := 121) dX14_readBytes_121 rfl ?_
                  refine y_get hC (pc := 122) zf14 rOb_0 29 (v := iv (rF s70 0 29)) dX14_readBytes_122 zw2496 (rv_i (Or.inl rfl) rfl) (kk := ?_)
                  have h := h (Ws70.f _ _)
                  refine z_iconst hC (pc := 125) (v := Int32.ofInt 1) dX14_readBytes_125 (by decide) ?_
                  refine y_iadd hC (pc := 126) (v := ((rF s70 0 29) + 1)) dX14_readBytes_126 rfl ?_
                  obtain ⟨r65, h⟩ := h
                  refine y_putI hC (pc := 127) zf14 rOb_0 29 (x := ((rF s70 0 29) + 1)) dX14_readBytes_127 zw2496 (Or.inl rfl) rfl rfl (kk := ?_)
                  have W66 := Ws70.sF (q := 0) (f := 29) (x := ((rF s70 0 29) + 1)) r65
                  have j130 : ∀ (d130 : Nat), ∀ (s130 : rS) , rWF s130 → rKeep 0x4020001c00 0 0x3c00000000 0 0 σ s130 → inv_X14_readBytes_t_130 σ x1 gg s130 → (mu_X14_readBytes_t_130 σ x1 gg s130 ) ≤ d130 → zS X G 3 (rW G κ s130) [(0, .ref (κ 0)), (1, iv x1)] 0 0 130 [] := by
                    intro d130
                    induction d130 with
                    | zero =>
                      intro s130 Ws130 kJ hI hmu
                      exact absurd hmu (by have := h_130m  s130  Ws130  (TPRp.keep kJ rfl rfl rfl) (kJ.R rfl) (kJ.F rfl) (kJ.F rfl) (fun i => kJ.A (f := 26) (by decide) rfl) hI; omega)
                    | succ d130 ih130 =>
                      intro s130 Ws130 kJ hI hmu130
                      have h := h_130  s130  Ws130  (TPRp.keep kJ rfl rfl rfl) (kJ.R rfl) (kJ.F rfl) (kJ.F rfl) (fun i => kJ.A (f := 26) (by decide) rfl) hI
                      refine z_aload_n hC (pc := 130) 0 dX14_readBytes_130 rfl rfl ?_
                      obtain ⟨p67, h⟩ := h
                      refine y_callVi hC (pc := 131) (As := []) (kX14_here l G κ s130  Ws130  p67) dmX14_here zf14 rOb_0 dX14_readBytes_131 zw3099 rfl rfl (Nat.le_of_ble_eq_true rfl) (Nat.le_of_ble_eq_true rfl) (Nat.le_of_ble_eq_true rfl) (Nat.le_of_ble_eq_true rfl) (Nat.le_of_ble_eq_true rfl) (kk := fun v131 s131 hv131 Ws131 qs131 => ?_)
                      obtain ⟨es131, qs131⟩ := qs131
                      have es131 := es131.symm
                      subst es131
                      have h := h v131 hv131 qs131
                      refine z_bipush hC (pc := 134) (v := Int32.ofInt 32) dX14_readBytes_134 (by decide) ?_
                      obtain ⟨hT, hF⟩ := h
                      refine y_icmp_eq hC (pc := 136) 148 hv131 (r_lit rfl) dX14_readBytes_136 (by decide) (fun c => ?_) (fun c => ?_)
                      · have h := hT c
                        refine z_aload_n hC (pc := 148) 0 dX14_readBytes_148 rfl rfl ?_
                        refine z_dup hC (pc := 149) dX14_readBytes_149 rfl ?_
                        refine y_get hC (pc := 150) zf14 rOb_0 29 (v := iv (rF s130 0 29)) dX14_readBytes_150 zw2496 (rv_i (Or.inl rfl) rfl) (kk := ?_)
                        have h := h (Ws130.f _ _)
                        refine z_iconst hC (pc := 153) (v := Int32.ofInt 1) dX14_readBytes_153 (by decide) ?_
                        refine y_iadd hC (pc := 154) (v := ((rF s130 0 29) + 1)) dX14_readBytes_154 rfl ?_
                        obtain ⟨r68, h⟩ := h
                        refine y_putI hC (pc := 155) zf14 rOb_0 29 (x := ((rF s130 0 29) + 1)) dX14_readBytes_155 zw2496 (Or.inl rfl) rfl rfl (kk := ?_)
                        have W69 := Ws130.sF (q := 0) (f := 29) (x := ((rF s130 0 29) + 1)) r68
                        refine z_goto hC (pc := 158) 130 dX14_readBytes_158 (by decide) ?_
                        obtain ⟨hI, hm⟩ := h
                        exact ih130 (sF s130 0 29 ((rF s130 0 29) + 1))  W69  (rKeep.tr (rKeep.tr rKeep.rf kJ rfl rfl rfl rfl rfl) (rKeep.sF0 (f := 29)) rfl rfl rfl rfl rfl) hI (by omega)
                      · have h := hF c
                        refine z_aload_n hC (pc := 139) 0 dX14_readBytes_139 rfl rfl ?_
                        obtain ⟨p70, h⟩ := h
                        refine y_callVi hC (pc := 140) (As := []) (kX14_here l G κ s130  Ws130  p70) dmX14_here zf14 rOb_0 dX14_readBytes_140 zw3099 rfl rfl (Nat.le_of_ble_eq_true rfl) (Nat.le_of_ble_eq_true rfl) (Nat.le_of_ble_eq_true rfl) (Nat.le_of_ble_eq_true rfl) (Nat.le_of_ble_eq_true rfl) (kk := fun v140 s140 hv140 Ws140 qs140 => ?_)
                        obtain ⟨es140, qs140⟩ := qs140
                        have es140 := es140.symm
                        subst es140
                        have h := h v140 hv140 qs140
                        refine z_bipush hC (pc := 143) (v := Int32.ofInt 9) dX14_readBytes_143 (by decide) ?_
                        obtain ⟨hT, hF⟩ := h
                        refine y_icmp_ne hC (pc := 145) 161 hv140 (r_lit rfl) dX14_readBytes_145 (by decide) (fun c => ?_) (fun c => ?_)
                        · have h := hT c
                          refine z_aload_n hC (pc := 161) 0 dX14_readBytes_161 rfl rfl ?_
                          refine z_bipush hC (pc := 162) (v := Int32.ofInt 20) dX14_readBytes_162 (by decide) ?_
                          refine z_iconst hC (pc := 164) (v := Int32.ofInt 0) dX14_readBytes_164 (by decide) ?_
                          refine z_iload_n hC (pc := 165) 1 dX14_readBytes_165 rfl rfl ?_
                          obtain ⟨p71, h⟩ := h
                          refine y_callVv hC (pc := 166) (As := [iv 20, iv 0, iv x1]) (kX14_note_t l G κ s130 20 0 x1 gg Ws130 (r_lit rfl) (r_lit rfl) hx1 p71) dmX14_note zf14 rOb_0 dX14_readBytes_166 zw3111 rfl rfl (Nat.le_of_ble_eq_true rfl) (Nat.le_of_ble_eq_true rfl) (Nat.le_of_ble_eq_true rfl) (Nat.le_of_ble_eq_true rfl) (Nat.le_of_ble_eq_true rfl) (kk := fun s166 Ws166 qs166 => ?_)
                          have h := h s166 Ws166 (TPRp.keep qs166.1 rfl rfl rfl) (qs166.1.R rfl) (qs166.1.F rfl) (qs166.1.F rfl) (qs166.1.F rfl) (qs166.1.F rfl) (fun i => qs166.1.A (f := 26) (by decide) rfl) qs166.2
                          exact y_retv hR dX14_readBytes_169 Ws166 (Nat.le_of_ble_eq_true rfl) (Nat.le_of_ble_eq_true rfl) ⟨(rKeep.tr (rKeep.tr rKeep.rf kJ rfl rfl rfl rfl rfl) qs166.1 rfl rfl rfl rfl rfl), h⟩
                        · have h := hF c
                          refine z_aload_n hC (pc := 148) 0 dX14_readBytes_148 rfl rfl ?_
                          refine z_dup hC (pc := 149) dX14_readBytes_149 rfl ?_
                          refine y_get hC (pc := 150) zf14 rOb_0 29 (v := iv (rF s130 0 29)) dX14_readBytes_150 zw2496 (rv_i (Or.inl rfl) rfl) (kk := ?_)
                          have h := h (Ws130.f _ _)
                          refine z_iconst hC (pc := 153) (v := Int32.ofInt 1) dX14_readBytes_153 (by decide) ?_
                          refine y_iadd hC (pc := 154) (v := ((rF s130 0 29) + 1)) dX14_readBytes_154 rfl ?_
                          obtain ⟨r72, h⟩ := h
                          refine y_putI hC (pc := 155) zf14 rOb_0 29 (x := ((rF s130 0 29) + 1)) dX14_readBytes_155 zw2496 (Or.inl rfl) rfl rfl (kk := ?_)
                          have W73 := Ws130.sF (q := 0) (f := 29) (x := ((rF s130 0 29) + 1)) r72
                          refine z_goto hC (pc := 158) 130 dX14_readBytes_158 (by decide) ?_
                          obtain ⟨hI, hm⟩ := h
                          exact ih130 (sF s130 0 29 ((rF s130 0 29) + 1))  W73  (rKeep.tr (rKeep.tr rKeep.rf kJ rfl rfl rfl rfl rfl) (rKeep.sF0 (f := 29)) rfl rfl rfl rfl rfl) hI (by omega)
                  exact j130 _ (sF s70 0 29 ((rF s70 0 29) + 1))  W66  (rKeep.tr (rKeep.tr rKeep.rf kJ rfl rfl rfl rfl rfl) (rKeep.sF0 (f := 29)) rfl rfl rfl rfl rfl) h (Nat.le_refl _)
                · have h := hF c
                  refine z_aload_n hC (pc := 110) 0 dX14_readBytes_110 rfl rfl ?_
                  refine z_iconst hC (pc := 111) (v := Int32.ofInt 1) dX14_readBytes_111 (by decide) ?_
                  refine z_aload_n hC (pc := 112) 0 dX14_readBytes_112 rfl rfl ?_
                  obtain ⟨p74, h⟩ := h
                  refine y_callVi hC (pc := 113) (As := []) (kX14_place l G κ s70  Ws70  p74) dmX14_place zf14 rOb_0 dX14_readBytes_113 zw3103 rfl rfl (Nat.le_of_ble_eq_true rfl) (Nat.le_of_ble_eq_true rfl) (Nat.le_of_ble_eq_true rfl) (Nat.le_of_ble_eq_true rfl) (Nat.le_of_ble_eq_true rfl) (kk := fun v113 s113 hv113 Ws113 qs113 => ?_)
                  obtain ⟨es113, qs113⟩ := qs113
                  have es113 := es113.symm
                  subst es113
                  have h := h v113 hv113 qs113
                  obtain ⟨p75, h⟩ := h
                  refine y_callVv hC (pc := 116) (As := [iv 1, iv v113]) (kX14_bad l G κ s70 1 v113 Ws70 (r_lit rfl) hv113 p75) dmX14_bad zf14 rOb_0 dX14_readBytes_116 zw3000 rfl rfl (Nat.le_of_ble_eq_true rfl) (Nat.le_of_ble_eq_true rfl) (Nat.le_of_ble_eq_true rfl) (Nat.le_of_ble_eq_true rfl) (Nat.le_of_ble_eq_true rfl) (kk := fun s116 Ws116 qs116 => ?_)
                  have h := h s116 Ws116 (TPRp.keep qs116.1 rfl rfl rfl) (WNp.keep qs116.1 rfl rfl rfl rfl rfl) (qs116.1.R rfl) (qs116.1.F rfl) (qs116.1.F rfl) (qs116.1.F rfl) (qs116.1.F rfl) (fun i => qs116.1.A (f := 26) (by decide) rfl) (fun i => qs116.1.A (f := 34) (by decide) rfl) (fun i => qs116.1.A (f := 35) (by decide) rfl) (fun i => qs116.1.A (f := 37) (by decide) rfl) (RG.keep (c0 := 0) qs116.1 rfl rfl rfl rfl rfl rfl rfl rfl rfl rfl rfl rfl rfl rfl rfl rfl rfl rfl) qs116.2
                  exact y_retv hR dX14_readBytes_119 Ws116 (Nat.le_of_ble_eq_true rfl) (Nat.le_of_ble_eq_true rfl) ⟨(rKeep.tr (rKeep.tr rKeep.rf kJ rfl rfl rfl rfl rfl) qs116.1 rfl rfl rfl rfl rfl), h⟩
              · have h := hF c
                refine z_aload_n hC (pc := 88) 0 dX14_readBytes_88 rfl rfl ?_
                refine z_dup hC (pc := 89) dX14_readBytes_89 rfl ?_
                refine y_get hC (pc := 90) zf14 rOb_0 29 (v := iv (rF s70 0 29)) dX14_readBytes_90 zw2496 (rv_i (Or.inl rfl) rfl) (kk := ?_)
                have h := h (Ws70.f _ _)
                refine z_iconst hC (pc := 93) (v := Int32.ofInt 1) dX14_readBytes_93 (by decide) ?_
                refine y_iadd hC (pc := 94) (v := ((rF s70 0 29) + 1)) dX14_readBytes_94 rfl ?_
                obtain ⟨r76, h⟩ := h
                refine y_putI hC (pc := 95) zf14 rOb_0 29 (x := ((rF s70 0 29) + 1)) dX14_readBytes_95 zw2496 (Or.inl rfl) rfl rfl (kk := ?_)
                have W77 := Ws70.sF (q := 0) (f := 29) (x := ((rF s70 0 29) + 1)) r76
                refine z_goto hC (pc := 98) 70 dX14_readBytes_98 (by decide) ?_
                obtain ⟨hI, hm⟩ := h
                exact ih70 (sF s70 0 29 ((rF s70 0 29) + 1))  W77  (rKeep.tr (rKeep.tr rKeep.rf kJ rfl rfl rfl rfl rfl) (rKeep.sF0 (f := 29)) rfl rfl rfl rfl rfl) hI (by omega)
        exact j70 _ (sF (sF σ 0 29 ((rF σ 0 29) + 2)) 0 29 (((rF σ 0 29) + 2) + 1))  W59  (rKeep.tr (rKeep.tr rKeep.rf (rKeep.sF0 (f := 29)) rfl rfl rfl rfl rfl) (rKeep.sF0 (f := 29)) rfl rfl rfl rfl rfl) h (Nat.le_refl _)
      · have h := hF c
        refine z_aload_n hC (pc := 50) 0 dX14_readBytes_50 rfl rfl ?_
        refine z_iconst hC (pc := 51) (v := Int32.ofInt 1) dX14_readBytes_51 (by decide) ?_
        refine z_aload_n hC (pc := 52) 0 dX14_readBytes_52 rfl rfl ?_
        obtain ⟨p78, h⟩ := h
        refine y_callVi hC (pc := 53) (As := []) (kX14_place l G κ (sF σ 0 29 ((rF σ 0 29) + 2))  W56  p78) dmX14_place zf14 rOb_0 dX14_readBytes_53 zw3103 rfl rfl (Nat.le_of_ble_eq_true rfl) (Nat.le_of_ble_eq_true rfl) (Nat.le_of_ble_eq_true rfl) (Nat.le_of_ble_eq_true rfl) (Nat.le_of_ble_eq_true rfl) (kk := fun v53 s53 hv53 Ws53 qs53 => ?_)
        obtain ⟨es53, qs53⟩ := qs53
        have es53 := es53.symm
        subst es53
        have h := h v53 hv53 qs53
        obtain ⟨p79, h⟩ := h
        refine y_callVv hC (pc := 56) (As := [iv 1, iv v53]) (kX14_bad l G κ (sF σ 0 29 ((rF σ 0 29) + 2)) 1 v53 W56 (r_lit rfl) hv53 p79) dmX14_bad zf14 rOb_0 dX14_readBytes_56 zw3000 rfl rfl (Nat.le_of_ble_eq_true rfl) (Nat.le_of_ble_eq_true rfl) (Nat.le_of_ble_eq_true rfl) (Nat.le_of_ble_eq_true rfl) (Nat.le_of_ble_eq_true rfl) (kk := fun s56 Ws56 qs56 => ?_)
        have h := h s56 Ws56 (TPRp.keep qs56.1 rfl rfl rfl) (WNp.keep qs56.1 rfl rfl rfl rfl rfl) (qs56.1.R rfl) (qs56.1.F rfl) (qs56.1.F rfl) (qs56.1.F rfl) (qs56.1.F rfl) (fun i => qs56.1.A (f := 26) (by decide) rfl) (fun i => qs56.1.A (f := 34) (by decide) rfl) (fun i => qs56.1.A (f := 35) (by decide) rfl) (fun i => qs56.1.A (f := 37) (by decide) rfl) (RG.keep (c0 := 0) qs56.1 rfl rfl rfl rfl rfl rfl rfl rfl rfl rfl rfl rfl rfl rfl rfl rfl rfl rfl) qs56.2
        exact y_retv hR dX14_readBytes_59 Ws56 (Nat.le_of_ble_eq_true rfl) (Nat.le_of_ble_eq_true rfl) ⟨(rKeep.tr (rKeep.tr rKeep.rf (rKeep.sF0 (f := 29)) rfl rfl rfl rfl rfl) qs56.1 rfl rfl rfl rfl rfl), h⟩
theorem kX14_readBytes_t (l : Launch) (G : zG) (κ : Nat → Nat) (σ : rS) (x1 : Int) (gg : Nat) (hwf : rWF σ) (hx1 : rng x1) (hp : pre_X14_readBytes_t σ x1 gg) : rMv l G κ yX14_readBytes cX14_readBytes 3 2 23 [.ref (κ 0), iv x1] σ (fun s => rKeep 0x4020001c00 0 0x3c00000000 0 0 σ s ∧ post_X14_readBytes_t σ x1 gg s) := wX14_readBytes_t l G κ σ x1 gg hwf hx1 (post_X14_readBytes_t σ x1 gg) (vX14_readBytes_t σ x1 gg hwf hx1 hp) (vX14_readBytes_t_170 σ x1 gg hwf hx1 hp) (vX14_readBytes_t_170m σ x1 gg hwf hx1 hp) (vX14_readBytes_t_130 σ x1 gg hwf hx1 hp) (vX14_readBytes_t_130m σ x1 gg hwf hx1 hp) (vX14_readBytes_t_70 σ x1 gg hwf hx1 hp) (vX14_readBytes_t_70m σ x1 gg hwf hx1 hp)
