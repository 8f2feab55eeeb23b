/-! THE REFERENCE'S WORLD as a function of numbers; rows over it. -/
abbrev rS : Type := (Nat → Nat → Int) × (Nat → Int → Int) × (Nat → Int → Int64) × (Nat → Nat)
def rF (σ : rS) (q f : Nat) : Int := σ.1 q f
def rA (σ : rS) (p : Nat) (i : Int) : Int := σ.2.1 p i
def rL (σ : rS) (p : Nat) (i : Int) : Int64 := σ.2.2.1 p i
def rR (σ : rS) (i : Nat) : Nat := σ.2.2.2 i
def sF (σ : rS) (q f : Nat) (x : Int) : rS := (fun a b => if a = q ∧ b = f then x else σ.1 a b, σ.2)
def sA (σ : rS) (p : Nat) (i : Int) (x : Int) : rS := (σ.1, (fun a b => if a = p ∧ b = i then x else σ.2.1 a b), σ.2.2)
def sL (σ : rS) (p : Nat) (i : Int) (x : Int64) : rS := (σ.1, σ.2.1, (fun a b => if a = p ∧ b = i then x else σ.2.2.1 a b), σ.2.2.2)
def sR (σ : rS) (i v : Nat) : rS := (σ.1, σ.2.1, σ.2.2.1, (fun a => if a = i then v else σ.2.2.2 a))
def rmain : List (Nat × Nat) := [(0, 0), (3, 20), (3, 4000), (0, 0), (6, 8), (2, 8), (7, 3), (8, 0), (8, 0), (8, 0), (0, 0), (0, 0), (0, 0), (1, 0), (0, 0), (9, 0), (0, 0), (0, 0), (0, 0), (0, 0), (5, 8), (0, 0), (0, 0), (0, 0), (0, 0), (0, 0), (3, 4001), (2, 4001), (0, 0), (0, 0), (0, 0), (0, 0), (0, 0), (0, 0), (2, 9000), (2, 9000), (2, 9000), (5, 9000), (0, 0), (0, 0), (2, 64), (0, 0), (0, 0), (0, 0), (0, 0), (0, 0), (2, 500), (4, 500), (3, 16000), (2, 500), (2, 500), (2, 500), (2, 50000), (2, 25000), (2, 25000), (2, 25000), (2, 6000), (2, 6000), (2, 6000), (2, 6000), (0, 0), (2, 40), (2, 40), (2, 40), (3, 640), (0, 0), (0, 0), (0, 0), (0, 0), (3, 12000), (0, 0), (0, 0), (0, 0), (0, 0), (0, 0), (2, 400), (2, 400), (2, 400), (2, 1000), (2, 1000), (0, 0), (0, 0), (0, 0), (0, 0), (2, 2001), (2, 2001), (2, 2001), (2, 2001), (0, 0), (2, 30000), (4, 30000), (3, 41000), (0, 0), (4, 20001), (0, 0), (10, 0), (0, 0), (0, 0), (0, 0), (0, 0), (0, 0), (1, 0), (3, 4100), (0, 0), (0, 0), (2, 40), (2, 40), (2, 40), (2, 40), (4, 40), (5, 40), (3, 40000), (0, 0), (0, 0), (2, 4000), (2, 4000), (2, 4000), (3, 2), (0, 0), (0, 0), (2, 3000), (2, 3000), (0, 0), (0, 0), (4, 200), (4, 200), (2, 200), (2, 200), (2, 200), (2, 200), (10, 0), (11, 0), (11, 0), (11, 0), (12, 0), (0, 0), (3, 25000), (0, 0), (2, 40)]
def rgrp : List (Nat × Nat) := [(2, 50000), (2, 50000), (2, 50000), (2, 50000), (2, 50000), (2, 50000), (2, 50000), (0, 0), (3, 60000), (0, 0), (2, 17000), (2, 17000), (0, 0), (0, 0), (0, 0), (2, 320), (2, 320), (2, 320), (2, 320), (2, 320), (2, 320), (2, 320), (2, 320), (2, 320), (2, 8), (2, 4000), (2, 8), (5, 8), (0, 0), (2, 5400), (2, 5400), (2, 5400), (0, 0), (2, 13000), (2, 13000), (2, 13000), (2, 13000), (2, 13000), (0, 0)]
def rpos : List Nat := [0, 1, 2, 3, 1001, 1002, 1004, 1005, 1006, 1020, 1026, 1027, 1034, 1035, 1036, 1037, 1040, 1046, 1047, 1048, 1049, 1050, 1051, 1052, 1053, 1054, 1055, 1056, 1057, 1058, 1059, 1061, 1062, 1063, 1064, 1069, 1075, 1076, 1077, 1078, 1079, 1084, 1085, 1086, 1087, 1089, 1090, 1091, 1093, 1095, 1102, 1105, 1106, 1107, 1108, 1109, 1110, 1111, 1114, 1115, 1116, 1117, 1120, 1121, 1124, 1125, 1126, 1127, 1128, 1129, 1130, 1131, 1132, 1133, 1134, 1136, 1138, 2000, 2001, 2002, 2003, 2004, 2005, 2006, 2008, 2010, 2011, 2015, 2016, 2017, 2018, 2019, 2020, 2021, 2022, 2023, 2024, 2025, 2026, 2027, 2029, 2030, 2031, 2033, 2034, 2035, 2036, 2037, 3000, 3001, 3002, 3003, 3004, 3005, 3006, 3008, 3010, 3011, 3015, 3016, 3017, 3018, 3019, 3020, 3021, 3022, 3023, 3024, 3025, 3026, 3027, 3029, 3030, 3031, 3033, 3034, 3035, 3036, 3037, 4000, 4001, 4002, 4003, 4004, 4005, 4006, 4008, 4010, 4011, 4015, 4016, 4017, 4018, 4019, 4020, 4021, 4022, 4023, 4024, 4025, 4026, 4027, 4029, 4030, 4031, 4033, 4034, 4035, 4036, 4037, 5000, 5001, 5002, 5003, 5004, 5005, 5006, 5007]
def rcode (t : List (Nat × Nat)) (f : Nat) : Nat × Nat := (t[f]?).getD (99, 0)
def rsh (p : Nat) : Nat × Nat := if p < 1000 then (99, 0) else if p < 2000 then rcode rmain (p - 1000) else if p < 5000 then rcode rgrp (p % 1000) else (3, 4000)
theorem rpos_nd : rpos.Nodup := by decide +kernel
def rng (x : Int) : Prop := -2147483648 ≤ x ∧ x ≤ 2147483647
abbrev iv (x : Int) : Value := .int (Int32.ofInt x)
def rad (κ : Nat → Nat) (σ : rS) (p : Nat) : Nat := match (rsh p).1 with
  | 10 => rR σ (p - 1000)
  | 11 => rR σ (p - 1000)
  | 12 => rR σ (p - 1000)
  | _ => κ p
def rv (κ : Nat → Nat) (σ : rS) (t : List (Nat × Nat)) (q f : Nat) : Value := match (rcode t f).1 with
  | 0 => iv (rF σ q f)
  | 1 => iv (rF σ q f)
  | 8 => if rR σ f = 0 then .null else .ref (κ (rR σ f))
  | 9 => if rR σ f = 0 then .null else .ref (κ (rR σ f))
  | 10 => .ref (rR σ f)
  | 11 => .ref (rR σ f)
  | 12 => .ref (rR σ f)
  | _ => .ref (κ (1000 * (q + 1) + f))
def rob (κ : Nat → Nat) (σ : rS) (ci N : Nat) (t : List (Nat × Nat)) (q : Nat) : va_E := .inr (ci, (List.range N).map (rv κ σ t q))
def rcont (σ : rS) (p : Nat) : Nat → Int32 := fun j => Int32.ofInt (rA σ p j)
def rC (G : zG) (κ : Nat → Nat) (σ : rS) (p : Nat) : va_E := if p = 0 then rob κ σ 14 139 rmain p else if p < 1000 then rob κ σ 13 39 rgrp p else match rsh p with
  | (2, N) => .inl (G.2.1 0, N, .inl (rcont σ p))
  | (3, N) => .inl (G.2.1 1, N, .inl (rcont σ p))
  | (4, N) => .inl (G.2.1 2, N, .inr (.inl (fun j => rL σ p j)))
  | (5, N) => .inl (G.2.1 3, N, .inl (rcont σ p))
  | (6, _) => .inl (G.2.1 4, 8, .inr (.inr (.inr (.inr (fun j => some (κ (5000 + j)))))))
  | (7, _) => .inl (G.2.1 5, 3, .inr (.inr (.inr (.inr (fun j => some (κ (1 + j)))))))
  | (10, _) => .inl (G.2.1 2, rR σ (p - 700), .inr (.inl (fun j => rL σ p j)))
  | (11, _) => .inl (G.2.1 0, rR σ (p - 700), .inl (rcont σ p))
  | (12, _) => .inl (G.2.1 3, rR σ (p - 700), .inl (rcont σ p))
  | _ => .inr (99, [])
def rW (G : zG) (κ : Nat → Nat) (σ : rS) : va_W := rpos.map (fun p => (rad κ σ p, rC G κ σ p))
theorem rW_at (G : zG) (κ : Nat → Nat) (σ : rS) {p : Nat} (h : p ∈ rpos) : ∃ i : Nat, rpos[i]? = some p ∧ (rW G κ σ)[i]? = some (rad κ σ p, rC G κ σ p) := by
  obtain ⟨i, hi⟩ := List.mem_iff_getElem?.mp h
  exact ⟨i, hi, by rw [rW, List.getElem?_map, hi]; rfl⟩
theorem rpos_inj {i j p : Nat} (hi : rpos[i]? = some p) (hj : rpos[j]? = some p) : i = j := by
  have h1 := (List.getElem?_eq_some_iff.mp hi).1
  exact (List.getElem?_inj h1 rpos_nd).mp (hi.trans hj.symm)
theorem rW_set {G : zG} {κ : Nat → Nat} {σ σ' : rS} {i p : Nat} {e : va_E} (hi : rpos[i]? = some p) (he : rC G κ σ' p = e) (hr : ∀ j, j ≠ p → rC G κ σ' j = rC G κ σ j) (ha : ∀ j, rad κ σ' j = rad κ σ j) : (rW G κ σ).set i (rad κ σ p, e) = rW G κ σ' := by
  apply List.ext_getElem?
  intro j
  by_cases hij : i = j
  · subst hij
    have hl : i < (rW G κ σ).length := by rw [rW, List.length_map]; exact (List.getElem?_eq_some_iff.mp hi).1
    rw [List.getElem?_set_self hl, rW, List.getElem?_map, hi, ← he, ← ha]
    rfl
  · rw [List.getElem?_set_ne hij, rW, rW, List.getElem?_map, List.getElem?_map]
    cases hj : rpos[j]? with
    | none => rfl
    | some q =>
      have hq : q ≠ p := fun h => hij (rpos_inj hi (by rw [hj, h]))
      show some (rad κ σ q, rC G κ σ q) = some (rad κ σ' q, rC G κ σ' q)
      rw [hr q hq, ha]
theorem rW_len (G : zG) (κ : Nat → Nat) (σ : rS) : (rW G κ σ).length = 178 := by rw [rW, List.length_map]; decide +kernel
theorem rW_all (G : zG) (κ : Nat → Nat) (σ : rS) : (List.range 178).map (fun i => (rW G κ σ)[i]?) = (rW G κ σ).map some := by
  have h := t_range (rW G κ σ)
  rw [rW_len] at h
  exact h
theorem rW_nd : va_nd (List.range 178 ++ []) = true := by decide +kernel
/-- numbers -/
theorem i_of {x : Int} (h : rng x) : (Int32.ofInt x).toInt = x := by
  obtain ⟨h1, h2⟩ := h
  rw [Int32.toInt_ofInt, Int.bmod_def]
  simp only [Int32.size]
  split <;> omega
theorem i_rng (x : Int32) : rng x.toInt := ⟨by have := x.le_toInt; omega, by have := x.toInt_lt; omega⟩
theorem i_lt {a b : Int} (ha : rng a) (hb : rng b) : (Int32.ofInt a < Int32.ofInt b) ↔ a < b := by rw [Int32.lt_iff_toInt_lt, i_of ha, i_of hb]
theorem i_le {a b : Int} (ha : rng a) (hb : rng b) : (Int32.ofInt a ≤ Int32.ofInt b) ↔ a ≤ b := by rw [Int32.le_iff_toInt_le, i_of ha, i_of hb]
theorem i_eq {a b : Int} (ha : rng a) (hb : rng b) : (Int32.ofInt a = Int32.ofInt b) ↔ a = b := by rw [← Int32.toInt_inj, i_of ha, i_of hb]
theorem r_0 : rng 0 := ⟨by decide, by decide⟩
theorem r_lit {x : Int} (h : decide (-2147483648 ≤ x ∧ x ≤ 2147483647) = true) : rng x := (of_decide_eq_true h : -2147483648 ≤ x ∧ x ≤ 2147483647)
/-- what holds at all times: each number fits -/
def rWF (σ : rS) : Prop := (∀ q f, rng (rF σ q f)) ∧ (∀ p i, rng (rA σ p i))
theorem rWF.f {σ : rS} (h : rWF σ) (q f : Nat) : rng (rF σ q f) := h.1 q f
theorem rWF.a {σ : rS} (h : rWF σ) (p : Nat) (i : Int) : rng (rA σ p i) := h.2 p i
theorem rWF.sF {σ : rS} (h : rWF σ) {q f : Nat} {x : Int} (hx : rng x) : rWF (sF σ q f x) := ⟨fun a b => by
  show rng (if a = q ∧ b = f then x else σ.1 a b)
  split
  · exact hx
  · exact h.1 a b, h.2⟩
theorem rWF.sA {σ : rS} (h : rWF σ) {p : Nat} {i x : Int} (hx : rng x) : rWF (sA σ p i x) := ⟨h.1, fun a b => by
  show rng (if a = p ∧ b = i then x else σ.2.1 a b)
  split
  · exact hx
  · exact h.2 a b⟩
theorem rWF.sL {σ : rS} (h : rWF σ) {p : Nat} {i : Int} {x : Int64} : rWF (sL σ p i x) := h
theorem rWF.sR {σ : rS} (h : rWF σ) {i v : Nat} : rWF (sR σ i v) := h
/-- reads over writes -/
theorem F_sF (σ : rS) (q f : Nat) (x : Int) : rF (sF σ q f x) q f = x := if_pos ⟨rfl, rfl⟩
theorem F_sF_ne {σ : rS} {q f q' f' : Nat} {x : Int} (h : f' ≠ f) : rF (sF σ q f x) q' f' = rF σ q' f' := if_neg (fun k => h k.2)
theorem F_sF_nq {σ : rS} {q f q' f' : Nat} {x : Int} (h : q' ≠ q) : rF (sF σ q f x) q' f' = rF σ q' f' := if_neg (fun k => h k.1)
theorem A_sA (σ : rS) (p : Nat) (i x : Int) : rA (sA σ p i x) p i = x := if_pos ⟨rfl, rfl⟩
theorem A_sA_ne {σ : rS} {p p' : Nat} {i j x : Int} (h : p' ≠ p) : rA (sA σ p i x) p' j = rA σ p' j := if_neg (fun k => h k.1)
theorem A_sA_ni {σ : rS} {p p' : Nat} {i j x : Int} (h : j ≠ i) : rA (sA σ p i x) p' j = rA σ p' j := if_neg (fun k => h k.2)
theorem rF_sF {σ : rS} {q f q' f' : Nat} {x : Int} : rF (sF σ q f x) q' f' = if q' = q ∧ f' = f then x else rF σ q' f' := rfl
theorem rF_sA {σ : rS} {q f p : Nat} {i x : Int} : rF (sA σ p i x) q f = rF σ q f := rfl
theorem rF_sL {σ : rS} {q f p : Nat} {i : Int} {x : Int64} : rF (sL σ p i x) q f = rF σ q f := rfl
theorem rF_sR {σ : rS} {q f i v : Nat} : rF (sR σ i v) q f = rF σ q f := rfl
theorem rA_sA {σ : rS} {p p' : Nat} {i j x : Int} : rA (sA σ p i x) p' j = if p' = p ∧ j = i then x else rA σ p' j := rfl
theorem rA_sF {σ : rS} {q f p : Nat} {i x : Int} : rA (sF σ q f x) p i = rA σ p i := rfl
theorem rA_sL {σ : rS} {p p' : Nat} {i j : Int} {x : Int64} : rA (sL σ p i x) p' j = rA σ p' j := rfl
theorem rA_sR {σ : rS} {p i' v : Nat} {i : Int} : rA (sR σ i' v) p i = rA σ p i := rfl
theorem rR_sF {σ : rS} {q f i : Nat} {x : Int} : rR (sF σ q f x) i = rR σ i := rfl
theorem rR_sA {σ : rS} {p i' : Nat} {i x : Int} : rR (sA σ p i x) i' = rR σ i' := rfl
theorem rR_sL {σ : rS} {p i' : Nat} {i : Int} {x : Int64} : rR (sL σ p i x) i' = rR σ i' := rfl
theorem rR_sR {σ : rS} {i v j : Nat} : rR (sR σ i v) j = if j = i then v else rR σ j := rfl
def rgk (k : Nat) : Prop := k = 1 ∨ k = 2 ∨ k = 3
def rfk (k : Nat) : Prop := 5000 ≤ k ∧ k < 5008
theorem r_mem0 : (0 : Nat) ∈ rpos := by decide +kernel
theorem r_memk {k : Nat} (h : rgk k) : k ∈ rpos := by rcases h with rfl | rfl | rfl <;> decide +kernel
theorem r_mema {k f : Nat} (h : rgk k) (hf : decide (1000 + 1000 + f ∈ rpos) && decide (1000 * 3 + f ∈ rpos) && decide (1000 * 4 + f ∈ rpos) = true) : 1000 * (k + 1) + f ∈ rpos := by
  simp only [Bool.and_eq_true, decide_eq_true_eq] at hf
  rcases h with rfl | rfl | rfl
  · exact hf.1.1
  · exact hf.1.2
  · exact hf.2
theorem r_memf {p : Nat} (h : rfk p) : p ∈ rpos := by
  obtain ⟨h1, h2⟩ := h
  have : p = 5000 ∨ p = 5001 ∨ p = 5002 ∨ p = 5003 ∨ p = 5004 ∨ p = 5005 ∨ p = 5006 ∨ p = 5007 := by omega
  rcases this with rfl | rfl | rfl | rfl | rfl | rfl | rfl | rfl <;> decide +kernel
theorem r_sha {k f : Nat} (h : rgk k) (hf : f < 1000) : rsh (1000 * (k + 1) + f) = rcode rgrp f := by
  have h1 : ¬ 1000 * (k + 1) + f < 1000 := by omega
  have h2 : ¬ 1000 * (k + 1) + f < 2000 := by rcases h with rfl | rfl | rfl <;> omega
  have h3 : 1000 * (k + 1) + f < 5000 := by rcases h with rfl | rfl | rfl <;> omega
  have h4 : (1000 * (k + 1) + f) % 1000 = f := by omega
  rw [rsh, if_neg h1, if_neg h2, if_pos h3, h4]
theorem r_shf {p : Nat} (h : rfk p) : rsh p = (3, 4000) := by
  obtain ⟨h1, h2⟩ := h
  rw [rsh, if_neg (by omega), if_neg (by omega), if_neg (by omega)]
/-- an object's cell -/
def rOb (ci N : Nat) (t : List (Nat × Nat)) (q : Nat) : Prop := q ∈ rpos ∧ q < 1000 ∧ ∀ (G : zG) (κ : Nat → Nat) (σ : rS), rC G κ σ q = rob κ σ ci N t q
theorem rOb_0 : rOb 14 139 rmain 0 := ⟨r_mem0, by decide, fun _ _ _ => rfl⟩
theorem rOb_k {k : Nat} (h : rgk k) : rOb 13 39 rgrp k := ⟨r_memk h, by rcases h with rfl | rfl | rfl <;> decide, fun _ _ _ => by rcases h with rfl | rfl | rfl <;> rfl⟩
theorem r_rad {q : Nat} (h : q < 1000) (κ : Nat → Nat) (σ : rS) : rad κ σ q = κ q := by
  rw [rad, rsh, if_pos h]
  rfl
theorem r_radc {p : Nat} (h : (rsh p).1 < 10) (κ : Nat → Nat) (σ : rS) : rad κ σ p = κ p := by
  rw [rad]
  split <;> first | rfl | (rename_i h2; rw [h2] at h; exact absurd h (by decide))
section RY
variable {X : zX} {l : Launch} {G : zG} {y : MethodName} {cc : ByteArray} {nL fr lo mc ms : Nat} {lv : List (Nat × Value)} {k n pc : Nat} {st : List Value} {κ : Nat → Nat} {σ : rS}

theorem y_get (hC : zC X l G y cc nL fr lo mc ms) {ci N q : Nat} {C : String} {T : u_T} {ty : Nat → FieldType} {t : List (Nat × Nat)} (hF : zF ci C T N ty) (ho : rOb ci N t q) (f : Nat) {idx : Nat} {v : Value} (hd : decode cc pc = .ok (.getfield idx, 3)) (hw : Cond.fieldLink y.cls idx C (T f).2.1 (T f).2.2.1 ∈ zT) (hv : rv κ σ t q f = v) (hf : f < N := by decide) (hdc : (T f).1 = C := by rfl) (kk : zS X G nL (rW G κ σ) lv k n (pc + 3) (v :: st)) : zS X G nL (rW G κ σ) lv k n pc (.ref (κ q) :: st) := by
  obtain ⟨i, hi, hc⟩ := rW_at G κ σ ho.1
  rw [ho.2.2, r_rad ho.2.1] at hc
  exact z_get hC hF i f hd hw hc (by rw [List.getElem?_map, List.getElem?_range hf, ← hv]; rfl) hf hdc kk
theorem y_getN (hC : zC X l G y cc nL fr lo mc ms) {ci N q : Nat} {C host : String} {T : u_T} {ty : Nat → FieldType} {t : List (Nat × Nat)} (hF : zF ci C T N ty) (ho : rOb ci N t q) (f : Nat) {idx : Nat} {v : Value} (hd : decode cc pc = .ok (.getfield idx, 3)) (hw : Cond.fieldLinkNest y.cls idx C (T f).2.1 (T f).2.2.1 host ∈ zNest) (hv : rv κ σ t q f = v) (hf : f < N := by decide) (hdc : (T f).1 = C := by rfl) (kk : zS X G nL (rW G κ σ) lv k n (pc + 3) (v :: st)) : zS X G nL (rW G κ σ) lv k n pc (.ref (κ q) :: st) := by
  obtain ⟨i, hi, hc⟩ := rW_at G κ σ ho.1
  rw [ho.2.2, r_rad ho.2.1] at hc
  exact z_getN hC hF i f hd hw hc (by rw [List.getElem?_map, List.getElem?_range hf, ← hv]; rfl) hf hdc kk
/-- what a field holds -/
theorem rv_i {t : List (Nat × Nat)} {q f : Nat} {x : Int} (ht : (rcode t f).1 = 0 ∨ (rcode t f).1 = 1) (hx : rF σ q f = x) : rv κ σ t q f = iv x := by
  subst hx
  rcases ht with h | h <;> simp only [rv, h]
theorem rv_c {t : List (Nat × Nat)} {q f : Nat} (ht : decide (2 ≤ (rcode t f).1 ∧ (rcode t f).1 ≤ 7) = true) : rv κ σ t q f = .ref (κ (1000 * (q + 1) + f)) := by
  have := of_decide_eq_true ht
  have h2 : (rcode t f).1 = 2 ∨ (rcode t f).1 = 3 ∨ (rcode t f).1 = 4 ∨ (rcode t f).1 = 5 ∨ (rcode t f).1 = 6 ∨ (rcode t f).1 = 7 := by omega
  rcases h2 with h | h | h | h | h | h <;> simp only [rv, h]
theorem rv_g {t : List (Nat × Nat)} {q f : Nat} (ht : (rcode t f).1 = 8) {k' : Nat} (hk : rR σ f = k') (h : rgk k') : rv κ σ t q f = .ref (κ k') := by
  subst hk
  rw [rv, ht]
  show (if rR σ f = 0 then Value.null else .ref (κ (rR σ f))) = _
  rw [if_neg (by rcases h with h | h | h <;> rw [h] <;> decide)]
theorem rv_b {t : List (Nat × Nat)} {q f : Nat} (ht : (rcode t f).1 = 9) {k' : Nat} (hk : rR σ f = k') (h : rfk k') : rv κ σ t q f = .ref (κ k') := by
  subst hk
  rw [rv, ht]
  show (if rR σ f = 0 then Value.null else .ref (κ (rR σ f))) = _
  rw [if_neg (by have := h.1; omega)]
theorem rv_sF_ne {t : List (Nat × Nat)} {q q' f j : Nat} {x : Int} (h : j ≠ f) : rv κ (sF σ q f x) t q' j = rv κ σ t q' j := by
  simp only [rv, F_sF_ne h]
  rfl
theorem rv_sF_nq {t : List (Nat × Nat)} {q q' f j : Nat} {x : Int} (h : q' ≠ q) : rv κ (sF σ q f x) t q' j = rv κ σ t q' j := by
  simp only [rv, F_sF_nq h]
  rfl
theorem r_setF {ci N q f : Nat} {t : List (Nat × Nat)} {x : Int} (ht : (rcode t f).1 = 0 ∨ (rcode t f).1 = 1) : rob κ (sF σ q f x) ci N t q = .inr (ci, ((List.range N).map (rv κ σ t q)).set f (iv x)) := by
  rw [rob]
  congr 2
  apply List.ext_getElem?
  intro j
  by_cases hj : f = j
  · subst hj
    by_cases hl : f < N
    · rw [List.getElem?_set_self (by simpa using hl), List.getElem?_map, List.getElem?_range hl]
      show some _ = some _
      rw [rv_i ht (F_sF σ q f x)]
    · rw [List.getElem?_eq_none (by simpa using Nat.le_of_not_lt hl), List.getElem?_eq_none (by simpa using Nat.le_of_not_lt hl)]
  · rw [List.getElem?_set_ne hj, List.getElem?_map, List.getElem?_map]
    cases hr : (List.range N)[j]? with
    | none => rfl
    | some z =>
      have hz : z = j := by
        have hl := (List.getElem?_eq_some_iff.mp hr).1
        rw [List.getElem?_range (by simpa using hl)] at hr
        cases hr; rfl
      subst hz
      show some _ = some _
      rw [rv_sF_ne (Ne.symm hj)]
theorem rob_sF_nq {ci N q q' f : Nat} {t : List (Nat × Nat)} {x : Int} (h : q' ≠ q) : rob κ (sF σ q f x) ci N t q' = rob κ σ ci N t q' := by
  rw [rob, rob]
  congr 2
  apply List.map_congr_left
  intro j _
  exact rv_sF_nq h
theorem rC_sF {q f j : Nat} {x : Int} (h : j ≠ q) : rC G κ (sF σ q f x) j = rC G κ σ j := by
  rw [rC, rC, rob_sF_nq h, rob_sF_nq h]
  rfl
theorem y_putI (hC : zC X l G y cc nL fr lo mc ms) {ci N q : Nat} {C : String} {T : u_T} {ty : Nat → FieldType} {t : List (Nat × Nat)} (hF : zF ci C T N ty) (ho : rOb ci N t q) (f : Nat) {idx : Nat} {x : Int} (hd : decode cc pc = .ok (.putfield idx, 3)) (hw : Cond.fieldLink y.cls idx C (T f).2.1 (T f).2.2.1 ∈ zT) (ht : (rcode t f).1 = 0 ∨ (rcode t f).1 = 1) (hn : narrow (ty f) (iv x) = iv x) (hfit : fits (ty f) (iv x) = true) (hfin : (T f).2.2.2 = false := by rfl) (hf : f < N := by decide) (hdc : (T f).1 = C := by rfl) (kk : zS X G nL (rW G κ (sF σ q f x)) lv k n (pc + 3) st) : zS X G nL (rW G κ σ) lv k n pc (iv x :: .ref (κ q) :: st) := by
  obtain ⟨i, hi, hc⟩ := rW_at G κ σ ho.1
  rw [ho.2.2, r_rad ho.2.1] at hc
  refine z_put hC hF i f _ hd hw hc hfin hn hfit ?_ (by rw [List.length_map, List.length_range]) hf hdc kk
  rw [← r_rad ho.2.1 κ σ]
  exact rW_set hi (by rw [ho.2.2]; exact r_setF ht) (fun j hj => rC_sF hj) (fun _ => rfl)
theorem y_putIN (hC : zC X l G y cc nL fr lo mc ms) {ci N q : Nat} {C host : String} {T : u_T} {ty : Nat → FieldType} {t : List (Nat × Nat)} (hF : zF ci C T N ty) (ho : rOb ci N t q) (f : Nat) {idx : Nat} {x : Int} (hd : decode cc pc = .ok (.putfield idx, 3)) (hw : Cond.fieldLinkNest y.cls idx C (T f).2.1 (T f).2.2.1 host ∈ zNest) (ht : (rcode t f).1 = 0 ∨ (rcode t f).1 = 1) (hn : narrow (ty f) (iv x) = iv x) (hfit : fits (ty f) (iv x) = true) (hfin : (T f).2.2.2 = false := by rfl) (hf : f < N := by decide) (hdc : (T f).1 = C := by rfl) (kk : zS X G nL (rW G κ (sF σ q f x)) lv k n (pc + 3) st) : zS X G nL (rW G κ σ) lv k n pc (iv x :: .ref (κ q) :: st) := by
  obtain ⟨i, hi, hc⟩ := rW_at G κ σ ho.1
  rw [ho.2.2, r_rad ho.2.1] at hc
  refine z_putN hC hF i f _ hd hw hc hfin hn hfit ?_ (by rw [List.length_map, List.length_range]) hf hdc kk
  rw [← r_rad ho.2.1 κ σ]
  exact rW_set hi (by rw [ho.2.2]; exact r_setF ht) (fun j hj => rC_sF hj) (fun _ => rfl)
/-- arrays -/
theorem i_in {x : Int} {N : Nat} (h : 0 ≤ x ∧ x < N) (hN : N ≤ 2147483647) : vp_in (Int32.ofInt x) N := by
  rw [vp_in_iff, i_of ⟨by omega, by omega⟩]
  exact h
theorem i_nat {x : Int} {N : Nat} (h : 0 ≤ x ∧ x < N) (hN : N ≤ 2147483647) : (((Int32.ofInt x).toNatClampNeg : Nat) : Int) = x := by
  rw [Int32.toNatClampNeg, i_of ⟨by omega, by omega⟩]
  omega
/-- an array's cell -/
def rAr (c : Nat) (N : Nat) (p : Nat) : Prop := p ∈ rpos ∧ 1000 ≤ p ∧ rsh p = (c, N) ∧ c < 10 ∧ N ≤ 2147483647
theorem rAr_m {p c N : Nat} (h : decide (p ∈ rpos) && decide (1000 ≤ p) && decide (rsh p = (c, N)) && decide (c < 10) && decide (N ≤ 2147483647) = true) : rAr c N p := by
  simp only [Bool.and_eq_true, decide_eq_true_eq] at h
  exact ⟨h.1.1.1.1, h.1.1.1.2, h.1.1.2, h.1.2, h.2⟩
theorem rAr_k {k f c N : Nat} (hk : rgk k) (h : decide (1000 + 1000 + f ∈ rpos) && decide (1000 * 3 + f ∈ rpos) && decide (1000 * 4 + f ∈ rpos) = true) (h2 : decide (f < 1000) && decide (rcode rgrp f = (c, N)) && decide (c < 10) && decide (N ≤ 2147483647) = true) : rAr c N (1000 * (k + 1) + f) := by
  simp only [Bool.and_eq_true, decide_eq_true_eq] at h2
  exact ⟨r_mema hk h, by omega, by rw [r_sha hk h2.1.1.1]; exact h2.1.1.2, h2.1.2, h2.2⟩
theorem rAr_f {p : Nat} (h : rfk p) : rAr 3 4000 p := ⟨r_memf h, by have := h.1; omega, r_shf h, by decide, by decide⟩
theorem rC_ar {c N p : Nat} (h : rAr c N p) {e : va_E} (he : (match (c, N) with
  | (2, N) => .inl (G.2.1 0, N, .inl (rcont σ p))
  | (3, N) => .inl (G.2.1 1, N, .inl (rcont σ p))
  | (4, N) => .inl (G.2.1 2, N, .inr (.inl (fun j => rL σ p j)))
  | (5, N) => .inl (G.2.1 3, N, .inl (rcont σ p))
  | _ => e) = e) : rC G κ σ p = e ∨ ¬ (2 ≤ c ∧ c ≤ 5) := by
  by_cases hc : 2 ≤ c ∧ c ≤ 5
  · refine Or.inl ?_
    rw [rC, if_neg (by have := h.2.1; omega), if_neg (by have := h.2.1; omega), h.2.2.1]
    have : c = 2 ∨ c = 3 ∨ c = 4 ∨ c = 5 := by omega
    rcases this with rfl | rfl | rfl | rfl <;> exact he
  · exact Or.inr hc
theorem rC_ar2 {N p : Nat} (h : rAr 2 N p) : rC G κ σ p = .inl (G.2.1 0, N, .inl (rcont σ p)) := (rC_ar h rfl).elim id (fun h => absurd ⟨by decide, by decide⟩ h)
theorem rC_ar3 {N p : Nat} (h : rAr 3 N p) : rC G κ σ p = .inl (G.2.1 1, N, .inl (rcont σ p)) := (rC_ar h rfl).elim id (fun h => absurd ⟨by decide, by decide⟩ h)
theorem rC_ar4 {N p : Nat} (h : rAr 4 N p) : rC G κ σ p = .inl (G.2.1 2, N, .inr (.inl (fun j => rL σ p j))) := (rC_ar h rfl).elim id (fun h => absurd ⟨by decide, by decide⟩ h)
theorem rC_ar5 {N p : Nat} (h : rAr 5 N p) : rC G κ σ p = .inl (G.2.1 3, N, .inl (rcont σ p)) := (rC_ar h rfl).elim id (fun h => absurd ⟨by decide, by decide⟩ h)
theorem rAr_rad {c N p : Nat} (h : rAr c N p) (κ : Nat → Nat) (σ : rS) : rad κ σ p = κ p := r_radc (by rw [h.2.2.1]; exact h.2.2.2.1) κ σ
theorem r_cont {N p : Nat} {x : Int} (hN : N ≤ 2147483647) (h : 0 ≤ x ∧ x < N) : rcont σ p (Int32.ofInt x).toNatClampNeg = Int32.ofInt (rA σ p x) := by rw [rcont, i_nat h hN]
theorem y_iald (hC : zC X l G y cc nL fr lo mc ms) {N p : Nat} {x v : Int} (ha : rAr 2 N p) (hd : decode cc pc = .ok (.iaload, 1)) (hi : 0 ≤ x ∧ x < N) (hv : rA σ p x = v) (kk : zS X G nL (rW G κ σ) lv k n (pc + 1) (iv v :: st)) : zS X G nL (rW G κ σ) lv k n pc (iv x :: .ref (κ p) :: st) := by
  obtain ⟨i, hi', hc⟩ := rW_at G κ σ ha.1
  rw [rC_ar2 ha, rAr_rad ha] at hc
  subst hv
  exact z_iald hC i hd hc (i_in hi ha.2.2.2.2) (r_cont ha.2.2.2.2 hi) kk
theorem y_bald (hC : zC X l G y cc nL fr lo mc ms) {N p : Nat} {x v : Int} (ha : rAr 3 N p) (hd : decode cc pc = .ok (.baload, 1)) (hi : 0 ≤ x ∧ x < N) (hv : rA σ p x = v) (kk : zS X G nL (rW G κ σ) lv k n (pc + 1) (iv v :: st)) : zS X G nL (rW G κ σ) lv k n pc (iv x :: .ref (κ p) :: st) := by
  obtain ⟨i, hi', hc⟩ := rW_at G κ σ ha.1
  rw [rC_ar3 ha, rAr_rad ha] at hc
  subst hv
  exact z_bald hC i hd hc (i_in hi ha.2.2.2.2) (r_cont ha.2.2.2.2 hi) kk
theorem y_zald (hC : zC X l G y cc nL fr lo mc ms) {N p : Nat} {x v : Int} (ha : rAr 5 N p) (hd : decode cc pc = .ok (.baload, 1)) (hi : 0 ≤ x ∧ x < N) (hv : rA σ p x = v) (kk : zS X G nL (rW G κ σ) lv k n (pc + 1) (iv v :: st)) : zS X G nL (rW G κ σ) lv k n pc (iv x :: .ref (κ p) :: st) := by
  obtain ⟨i, hi', hc⟩ := rW_at G κ σ ha.1
  rw [rC_ar5 ha, rAr_rad ha] at hc
  subst hv
  exact z_zald hC i hd hc (i_in hi ha.2.2.2.2) (r_cont ha.2.2.2.2 hi) kk
theorem r_updc {N p : Nat} {x v : Int} (hN : N ≤ 2147483647) (h : 0 ≤ x ∧ x < N) : upd (rcont σ p) (Int32.ofInt x).toNatClampNeg (Int32.ofInt v) = rcont (sA σ p x v) p := by
  funext j
  have e := i_nat h hN
  show (if j = (Int32.ofInt x).toNatClampNeg then _ else _) = Int32.ofInt (rA (sA σ p x v) p j)
  by_cases hj : j = (Int32.ofInt x).toNatClampNeg
  · have : (j : Int) = x := by rw [hj]; exact e
    rw [if_pos hj, this, A_sA]
  · have : (j : Int) ≠ x := fun q => hj (by omega)
    rw [if_neg hj, A_sA_ni this, rcont]
theorem rC_sA {p j : Nat} {i x : Int} (h : j ≠ p) : rC G κ (sA σ p i x) j = rC G κ σ j := by
  have e : rcont (sA σ p i x) j = rcont σ j := by
    funext z
    rw [rcont, rcont, A_sA_ne h]
  rw [rC, rC, e]
  rfl
theorem y_iast (hC : zC X l G y cc nL fr lo mc ms) {N p : Nat} {x v : Int} (ha : rAr 2 N p) (hd : decode cc pc = .ok (.iastore, 1)) (hi : 0 ≤ x ∧ x < N) (kk : zS X G nL (rW G κ (sA σ p x v)) lv k n (pc + 1) st) : zS X G nL (rW G κ σ) lv k n pc (iv v :: iv x :: .ref (κ p) :: st) := by
  obtain ⟨i, hi', hc⟩ := rW_at G κ σ ha.1
  rw [rC_ar2 ha, rAr_rad ha] at hc
  refine z_iast hC i _ hd hc (i_in hi ha.2.2.2.2) (r_updc ha.2.2.2.2 hi) ?_ kk
  rw [← rAr_rad ha κ σ]
  exact rW_set hi' (rC_ar2 ha) (fun j hj => rC_sA hj) (fun _ => rfl)
/-- what a byte or boolean array keeps of a number -/
def inar (t : FieldType) (v : Int) : Int := (vp_nar t (Int32.ofInt v)).toInt
theorem inar_i (t : FieldType) (v : Int) : vp_nar t (Int32.ofInt v) = Int32.ofInt (inar t v) := by rw [inar, Int32.ofInt_toInt]
theorem inar_rng (t : FieldType) (v : Int) : rng (inar t v) := i_rng _
theorem y_bast (hC : zC X l G y cc nL fr lo mc ms) {N p : Nat} {x v : Int} (ha : rAr 3 N p) (hd : decode cc pc = .ok (.bastore, 1)) (hi : 0 ≤ x ∧ x < N) (kk : zS X G nL (rW G κ (sA σ p x (inar .byte v))) lv k n (pc + 1) st) : zS X G nL (rW G κ σ) lv k n pc (iv v :: iv x :: .ref (κ p) :: st) := by
  obtain ⟨i, hi', hc⟩ := rW_at G κ σ ha.1
  rw [rC_ar3 ha, rAr_rad ha] at hc
  refine z_bast hC i (f' := rcont (sA σ p x (inar .byte v)) p) _ hd hc (i_in hi ha.2.2.2.2) (by rw [inar_i]; exact r_updc ha.2.2.2.2 hi) ?_ kk
  rw [← rAr_rad ha κ σ]
  exact rW_set hi' (rC_ar3 ha) (fun j hj => rC_sA hj) (fun _ => rfl)
theorem y_zast (hC : zC X l G y cc nL fr lo mc ms) {N p : Nat} {x v : Int} (ha : rAr 5 N p) (hd : decode cc pc = .ok (.bastore, 1)) (hi : 0 ≤ x ∧ x < N) (kk : zS X G nL (rW G κ (sA σ p x (inar .boolean v))) lv k n (pc + 1) st) : zS X G nL (rW G κ σ) lv k n pc (iv v :: iv x :: .ref (κ p) :: st) := by
  obtain ⟨i, hi', hc⟩ := rW_at G κ σ ha.1
  rw [rC_ar5 ha, rAr_rad ha] at hc
  refine z_zast hC i (f' := rcont (sA σ p x (inar .boolean v)) p) _ hd hc (i_in hi ha.2.2.2.2) (by rw [inar_i]; exact r_updc ha.2.2.2.2 hi) ?_ kk
  rw [← rAr_rad ha κ σ]
  exact rW_set hi' (rC_ar5 ha) (fun j hj => rC_sA hj) (fun _ => rfl)
theorem y_iadd (hC : zC X l G y cc nL fr lo mc ms) {ws : va_W} {a b v : Int} (hd : decode cc pc = .ok (.iadd, 1)) (hv : a + b = v) (kk : zS X G nL ws lv k n (pc + 1) (iv v :: st)) : zS X G nL ws lv k n pc (iv b :: iv a :: st) := z_iadd hC hd (by rw [← hv, Int32.ofInt_add]) kk
theorem y_isub (hC : zC X l G y cc nL fr lo mc ms) {ws : va_W} {a b v : Int} (hd : decode cc pc = .ok (.isub, 1)) (hv : a - b = v) (kk : zS X G nL ws lv k n (pc + 1) (iv v :: st)) : zS X G nL ws lv k n pc (iv b :: iv a :: st) := z_isub hC hd (by rw [← hv, Int32.ofInt_sub]) kk
theorem y_imul (hC : zC X l G y cc nL fr lo mc ms) {ws : va_W} {a b v : Int} (hd : decode cc pc = .ok (.imul, 1)) (hv : a * b = v) (kk : zS X G nL ws lv k n (pc + 1) (iv v :: st)) : zS X G nL ws lv k n pc (iv b :: iv a :: st) := z_imul hC hd (by rw [← hv, Int32.ofInt_mul]) kk
def f_iand (a b : Int) : Int := (Int32.ofInt a &&& Int32.ofInt b).toInt
theorem f_iand_rng (a b : Int) : rng (f_iand a b) := i_rng _
theorem y_iand (hC : zC X l G y cc nL fr lo mc ms) {ws : va_W} {a b : Int} (hd : decode cc pc = .ok (.iand, 1)) (kk : zS X G nL ws lv k n (pc + 1) (iv (f_iand a b) :: st)) : zS X G nL ws lv k n pc (iv b :: iv a :: st) := z_iand hC hd (by rw [f_iand, Int32.ofInt_toInt]) kk
def f_ishr (a b : Int) : Int := (Int32.ofInt a >>> (Int32.ofInt b &&& 31)).toInt
theorem f_ishr_rng (a b : Int) : rng (f_ishr a b) := i_rng _
theorem y_ishr (hC : zC X l G y cc nL fr lo mc ms) {ws : va_W} {a b : Int} (hd : decode cc pc = .ok (.ishr, 1)) (kk : zS X G nL ws lv k n (pc + 1) (iv (f_ishr a b) :: st)) : zS X G nL ws lv k n pc (iv b :: iv a :: st) := z_ishr hC hd (by rw [f_ishr, Int32.ofInt_toInt]) kk
def f_i2b (a : Int) : Int := (Int32.ofInt a).toInt8.toInt32.toInt
theorem f_i2b_rng (a : Int) : rng (f_i2b a) := i_rng _
theorem y_i2b (hC : zC X l G y cc nL fr lo mc ms) {ws : va_W} {a : Int} (hd : decode cc pc = .ok (.i2b, 1)) (kk : zS X G nL ws lv k n (pc + 1) (iv (f_i2b a) :: st)) : zS X G nL ws lv k n pc (iv a :: st) := z_i2b hC hd (by rw [f_i2b, Int32.ofInt_toInt]) kk
theorem y_iinc (hC : zC X l G y cc nL fr lo mc ms) {ws : va_W} {i : Nat} {z x v : Int} {lv' : List (Nat × Value)} (q : Nat) (hd : decode cc pc = .ok (.iinc i z, 3)) (hk : lv[q]? = some (i, iv x)) (hv : x + z = v) (hi : i < nL) (hq : (i, iv v) :: lv.filter (fun q => !(q.1 == i) && !(q.1 + 1 == i && q.2.category == 2)) = lv') (kk : zS X G nL ws lv' k n (pc + 3) st) : zS X G nL ws lv k n pc st := z_iinc hC q hd hk (by rw [← hv, Int32.ofInt_add]) hi hq kk
theorem y_icmp_eq (hC : zC X l G y cc nL fr lo mc ms) {ws : va_W} {a b : Int} {off : Int} (tgt : Nat) (ha : rng a) (hb : rng b) (hd : decode cc pc = .ok (.if_icmp .eq off, 3)) (ht : (pc : Int) + off = (tgt : Int)) (kt : a = b → zS X G nL ws lv k n tgt st) (kf : ¬ a = b → zS X G nL ws lv k n (pc + 3) st) : zS X G nL ws lv k n pc (iv b :: iv a :: st) := z_icmp_eq hC tgt hd ht (fun h => kt ((i_eq ha hb).mp h)) (fun h => kf (fun g => h ((i_eq ha hb).mpr g)))
theorem y_if_eq (hC : zC X l G y cc nL fr lo mc ms) {ws : va_W} {a : Int} {off : Int} (tgt : Nat) (ha : rng a) (hd : decode cc pc = .ok (.ifCond .eq off, 3)) (ht : (pc : Int) + off = (tgt : Int)) (kt : a = 0 → zS X G nL ws lv k n tgt st) (kf : ¬ a = 0 → zS X G nL ws lv k n (pc + 3) st) : zS X G nL ws lv k n pc (iv a :: st) := z_if_eq hC tgt hd ht (fun h => kt ((i_eq ha r_0).mp h)) (fun h => kf (fun g => h ((i_eq ha r_0).mpr g)))
theorem y_icmp_ne (hC : zC X l G y cc nL fr lo mc ms) {ws : va_W} {a b : Int} {off : Int} (tgt : Nat) (ha : rng a) (hb : rng b) (hd : decode cc pc = .ok (.if_icmp .ne off, 3)) (ht : (pc : Int) + off = (tgt : Int)) (kt : ¬ a = b → zS X G nL ws lv k n tgt st) (kf : a = b → zS X G nL ws lv k n (pc + 3) st) : zS X G nL ws lv k n pc (iv b :: iv a :: st) := z_icmp_ne hC tgt hd ht (fun h => kt (fun g => h ((i_eq ha hb).mpr g))) (fun h => kf ((i_eq ha hb).mp h))
theorem y_if_ne (hC : zC X l G y cc nL fr lo mc ms) {ws : va_W} {a : Int} {off : Int} (tgt : Nat) (ha : rng a) (hd : decode cc pc = .ok (.ifCond .ne off, 3)) (ht : (pc : Int) + off = (tgt : Int)) (kt : ¬ a = 0 → zS X G nL ws lv k n tgt st) (kf : a = 0 → zS X G nL ws lv k n (pc + 3) st) : zS X G nL ws lv k n pc (iv a :: st) := z_if_ne hC tgt hd ht (fun h => kt (fun g => h ((i_eq ha r_0).mpr g))) (fun h => kf ((i_eq ha r_0).mp h))
theorem y_icmp_lt (hC : zC X l G y cc nL fr lo mc ms) {ws : va_W} {a b : Int} {off : Int} (tgt : Nat) (ha : rng a) (hb : rng b) (hd : decode cc pc = .ok (.if_icmp .lt off, 3)) (ht : (pc : Int) + off = (tgt : Int)) (kt : a < b → zS X G nL ws lv k n tgt st) (kf : ¬ a < b → zS X G nL ws lv k n (pc + 3) st) : zS X G nL ws lv k n pc (iv b :: iv a :: st) := z_icmp_lt hC tgt hd ht (fun h => kt ((i_lt ha hb).mp h)) (fun h => kf (fun g => h ((i_lt ha hb).mpr g)))
theorem y_if_lt (hC : zC X l G y cc nL fr lo mc ms) {ws : va_W} {a : Int} {off : Int} (tgt : Nat) (ha : rng a) (hd : decode cc pc = .ok (.ifCond .lt off, 3)) (ht : (pc : Int) + off = (tgt : Int)) (kt : a < 0 → zS X G nL ws lv k n tgt st) (kf : ¬ a < 0 → zS X G nL ws lv k n (pc + 3) st) : zS X G nL ws lv k n pc (iv a :: st) := z_if_lt hC tgt hd ht (fun h => kt ((i_lt ha r_0).mp h)) (fun h => kf (fun g => h ((i_lt ha r_0).mpr g)))
theorem y_icmp_ge (hC : zC X l G y cc nL fr lo mc ms) {ws : va_W} {a b : Int} {off : Int} (tgt : Nat) (ha : rng a) (hb : rng b) (hd : decode cc pc = .ok (.if_icmp .ge off, 3)) (ht : (pc : Int) + off = (tgt : Int)) (kt : b ≤ a → zS X G nL ws lv k n tgt st) (kf : ¬ b ≤ a → zS X G nL ws lv k n (pc + 3) st) : zS X G nL ws lv k n pc (iv b :: iv a :: st) := z_icmp_ge hC tgt hd ht (fun h => kt ((i_le hb ha).mp h)) (fun h => kf (fun g => h ((i_le hb ha).mpr g)))
theorem y_if_ge (hC : zC X l G y cc nL fr lo mc ms) {ws : va_W} {a : Int} {off : Int} (tgt : Nat) (ha : rng a) (hd : decode cc pc = .ok (.ifCond .ge off, 3)) (ht : (pc : Int) + off = (tgt : Int)) (kt : 0 ≤ a → zS X G nL ws lv k n tgt st) (kf : ¬ 0 ≤ a → zS X G nL ws lv k n (pc + 3) st) : zS X G nL ws lv k n pc (iv a :: st) := z_if_ge hC tgt hd ht (fun h => kt ((i_le r_0 ha).mp h)) (fun h => kf (fun g => h ((i_le r_0 ha).mpr g)))
theorem y_icmp_gt (hC : zC X l G y cc nL fr lo mc ms) {ws : va_W} {a b : Int} {off : Int} (tgt : Nat) (ha : rng a) (hb : rng b) (hd : decode cc pc = .ok (.if_icmp .gt off, 3)) (ht : (pc : Int) + off = (tgt : Int)) (kt : b < a → zS X G nL ws lv k n tgt st) (kf : ¬ b < a → zS X G nL ws lv k n (pc + 3) st) : zS X G nL ws lv k n pc (iv b :: iv a :: st) := z_icmp_gt hC tgt hd ht (fun h => kt ((i_lt hb ha).mp h)) (fun h => kf (fun g => h ((i_lt hb ha).mpr g)))
theorem y_if_gt (hC : zC X l G y cc nL fr lo mc ms) {ws : va_W} {a : Int} {off : Int} (tgt : Nat) (ha : rng a) (hd : decode cc pc = .ok (.ifCond .gt off, 3)) (ht : (pc : Int) + off = (tgt : Int)) (kt : 0 < a → zS X G nL ws lv k n tgt st) (kf : ¬ 0 < a → zS X G nL ws lv k n (pc + 3) st) : zS X G nL ws lv k n pc (iv a :: st) := z_if_gt hC tgt hd ht (fun h => kt ((i_lt r_0 ha).mp h)) (fun h => kf (fun g => h ((i_lt r_0 ha).mpr g)))
theorem y_icmp_le (hC : zC X l G y cc nL fr lo mc ms) {ws : va_W} {a b : Int} {off : Int} (tgt : Nat) (ha : rng a) (hb : rng b) (hd : decode cc pc = .ok (.if_icmp .le off, 3)) (ht : (pc : Int) + off = (tgt : Int)) (kt : a ≤ b → zS X G nL ws lv k n tgt st) (kf : ¬ a ≤ b → zS X G nL ws lv k n (pc + 3) st) : zS X G nL ws lv k n pc (iv b :: iv a :: st) := z_icmp_le hC tgt hd ht (fun h => kt ((i_le ha hb).mp h)) (fun h => kf (fun g => h ((i_le ha hb).mpr g)))
theorem y_if_le (hC : zC X l G y cc nL fr lo mc ms) {ws : va_W} {a : Int} {off : Int} (tgt : Nat) (ha : rng a) (hd : decode cc pc = .ok (.ifCond .le off, 3)) (ht : (pc : Int) + off = (tgt : Int)) (kt : a ≤ 0 → zS X G nL ws lv k n tgt st) (kf : ¬ a ≤ 0 → zS X G nL ws lv k n (pc + 3) st) : zS X G nL ws lv k n pc (iv a :: st) := z_if_le hC tgt hd ht (fun h => kt ((i_le ha r_0).mp h)) (fun h => kf (fun g => h ((i_le ha r_0).mpr g)))
end RY

theorem rgrp_8 : ∀ j, j < 39 → (rcode rgrp j).1 < 8 := by decide +kernel
theorem rv_sR {κ : Nat → Nat} {σ : rS} {t : List (Nat × Nat)} {q f v j : Nat} (hf : f < 1000) (h : j ≠ f) : rv κ (sR σ f v) t q j = rv κ σ t q j := by
  have e1 : rR (sR σ f v) j = rR σ j := if_neg h
  have e3 : rF (sR σ f v) q j = rF σ q j := rfl
  simp only [rv, e1, e3]
theorem rv_sRg {κ : Nat → Nat} {σ : rS} {q f v j : Nat} (hj : j < 39) : rv κ (sR σ f v) rgrp q j = rv κ σ rgrp q j := by
  have h := rgrp_8 j hj
  have h2 : (rcode rgrp j).1 = 0 ∨ (rcode rgrp j).1 = 1 ∨ (rcode rgrp j).1 = 2 ∨ (rcode rgrp j).1 = 3 ∨ (rcode rgrp j).1 = 4 ∨ (rcode rgrp j).1 = 5 ∨ (rcode rgrp j).1 = 6 ∨ (rcode rgrp j).1 = 7 := by omega
  rcases h2 with h | h | h | h | h | h | h | h <;> simp only [rv, h] <;> rfl
theorem rC_sR {G : zG} {κ : Nat → Nat} {σ : rS} {f v j : Nat} (hf : f < 20) (h : j ≠ 0) : rC G κ (sR σ f v) j = rC G κ σ j := by
  rw [rC, rC, if_neg h, if_neg h]
  by_cases h1 : j < 1000
  · have e : (List.range 39).map (rv κ (sR σ f v) rgrp j) = (List.range 39).map (rv κ σ rgrp j) := List.map_congr_left (fun z hz => rv_sRg (List.mem_range.mp hz))
    rw [if_pos h1, if_pos h1, rob, rob, e]
  · rw [if_neg h1, if_neg h1]
    have e : rR (sR σ f v) (j - 700) = rR σ (j - 700) := by rw [rR_sR, if_neg (by omega)]
    rw [e]
    rfl
theorem rmut_95 : ∀ f, f < 20 → (rcode rmain f).1 < 10 := by decide +kernel
theorem rad_sR {κ : Nat → Nat} {σ : rS} {f v : Nat} (hf : f < 20) (j : Nat) : rad κ (sR σ f v) j = rad κ σ j := by
  by_cases h1 : j < 1000
  · rw [r_rad h1, r_rad h1]
  · by_cases h2 : j - 1000 = f
    · have h3 : j < 2000 := by omega
      have h4 : (rsh j).1 < 10 := by
        rw [rsh, if_neg h1, if_pos h3, h2]
        exact rmut_95 f hf
      rw [r_radc h4, r_radc h4]
    · have e : rR (sR σ f v) (j - 1000) = rR σ (j - 1000) := by rw [rR_sR, if_neg h2]
      rw [rad, rad, e]
theorem r_setR {κ : Nat → Nat} {σ : rS} {N f v : Nat} (hv : v ≠ 0) (ht : (rcode rmain f).1 = 8 ∨ (rcode rmain f).1 = 9) (hf : f < 1000) : rob κ (sR σ f v) 14 N rmain 0 = .inr (14, ((List.range N).map (rv κ σ rmain 0)).set f (.ref (κ v))) := by
  rw [rob]
  congr 2
  apply List.ext_getElem?
  intro j
  by_cases hj : f = j
  · subst hj
    by_cases hl : f < N
    · rw [List.getElem?_set_self (by simpa using hl), List.getElem?_map, List.getElem?_range hl]
      show some _ = some _
      have e : rR (sR σ f v) f = v := if_pos rfl
      rcases ht with h | h <;> simp only [rv, h, e, if_neg hv]
    · rw [List.getElem?_eq_none (by simpa using Nat.le_of_not_lt hl), List.getElem?_eq_none (by simpa using Nat.le_of_not_lt hl)]
  · rw [List.getElem?_set_ne hj, List.getElem?_map, List.getElem?_map]
    cases hr : (List.range N)[j]? with
    | none => rfl
    | some z =>
      have hz : z = j := by
        have hl := (List.getElem?_eq_some_iff.mp hr).1
        rw [List.getElem?_range (by simpa using hl)] at hr
        cases hr; rfl
      subst hz
      show some _ = some _
      rw [rv_sR hf (Ne.symm hj)]
section RPUT
variable {X : zX} {l : Launch} {G : zG} {y : MethodName} {cc : ByteArray} {nL fr lo mc ms : Nat} {lv : List (Nat × Value)} {k n pc : Nat} {st : List Value} {κ : Nat → Nat} {σ : rS}
theorem y_putR (hC : zC X l G y cc nL fr lo mc ms) (f : Nat) {idx k' : Nat} (h0 : k' ≠ 0) (hd : decode cc pc = .ok (.putfield idx, 3)) (hw : Cond.fieldLink y.cls idx RX14 (TX14 f).2.1 (TX14 f).2.2.1 ∈ zT) (ht : (rcode rmain f).1 = 8 ∨ (rcode rmain f).1 = 9) (hn : narrow (tyX14 f) (.ref (κ k')) = .ref (κ k')) (hfit : fits (tyX14 f) (.ref (κ k')) = true) (hfin : (TX14 f).2.2.2 = false) (hf : f < 20) (hdc : (TX14 f).1 = RX14) (kk : zS X G nL (rW G κ (sR σ f k')) lv k n (pc + 3) st) : zS X G nL (rW G κ σ) lv k n pc (.ref (κ k') :: .ref (κ 0) :: st) := by
  obtain ⟨i, hi, hc⟩ := rW_at G κ σ r_mem0
  rw [rOb_0.2.2, r_rad (by decide)] at hc
  refine z_put hC zf14 i f _ hd hw hc hfin hn hfit ?_ (by rw [List.length_map, List.length_range]) (by omega) hdc kk
  rw [← r_rad (q := 0) (by decide) κ σ]
  exact rW_set hi (by rw [rOb_0.2.2]; exact r_setR h0 ht (by omega)) (fun j hj => rC_sR (by omega) hj) (fun j => rad_sR (by omega) j)
theorem y_putG (hC : zC X l G y cc nL fr lo mc ms) (f : Nat) {idx k' : Nat} (hk : rgk k') (hd : decode cc pc = .ok (.putfield idx, 3)) (hw : Cond.fieldLink y.cls idx RX14 (TX14 f).2.1 (TX14 f).2.2.1 ∈ zT) (ht : (rcode rmain f).1 = 8) (hn : narrow (tyX14 f) (.ref (κ k')) = .ref (κ k') := by rfl) (hfit : fits (tyX14 f) (.ref (κ k')) = true := by rfl) (hfin : (TX14 f).2.2.2 = false := by rfl) (hf : f < 20 := by decide) (hdc : (TX14 f).1 = RX14 := by rfl) (kk : zS X G nL (rW G κ (sR σ f k')) lv k n (pc + 3) st) : zS X G nL (rW G κ σ) lv k n pc (.ref (κ k') :: .ref (κ 0) :: st) := y_putR hC f (by rcases hk with h | h | h <;> omega) hd hw (Or.inl ht) hn hfit hfin hf hdc kk
theorem y_putB (hC : zC X l G y cc nL fr lo mc ms) (f : Nat) {idx k' : Nat} (hk : rfk k') (hd : decode cc pc = .ok (.putfield idx, 3)) (hw : Cond.fieldLink y.cls idx RX14 (TX14 f).2.1 (TX14 f).2.2.1 ∈ zT) (ht : (rcode rmain f).1 = 9) (hn : narrow (tyX14 f) (.ref (κ k')) = .ref (κ k') := by rfl) (hfit : fits (tyX14 f) (.ref (κ k')) = true := by rfl) (hfin : (TX14 f).2.2.2 = false := by rfl) (hf : f < 20 := by decide) (hdc : (TX14 f).1 = RX14 := by rfl) (kk : zS X G nL (rW G κ (sR σ f k')) lv k n (pc + 3) st) : zS X G nL (rW G κ σ) lv k n pc (.ref (κ k') :: .ref (κ 0) :: st) := y_putR hC f (by have := hk.1; omega) hd hw (Or.inr ht) hn hfit hfin hf hdc kk
end RPUT

/-! contracts over it -/
def rQi (G : zG) (κ : Nat → Nat) (Q : Int → rS → Prop) : Int32 → va_W → Prop := fun r w => ∃ x σ', r = Int32.ofInt x ∧ rng x ∧ rWF σ' ∧ w = rW G κ σ' ∧ Q x σ'
def rQv (G : zG) (κ : Nat → Nat) (Q : rS → Prop) : va_W → Prop := fun w => ∃ σ', rWF σ' ∧ w = rW G κ σ' ∧ Q σ'
def rMi (l : Launch) (G : zG) (κ : Nat → Nat) (y : MethodName) (b : ByteArray) (nL : Nat) (ty : FieldType) (fr lo : Nat) (av : List Value) (σ : rS) (Q : Int → rS → Prop) : Prop := zMi l G y b nL ty fr lo 0 0 av (rW G κ σ) (rQi G κ Q)
def rMv (l : Launch) (G : zG) (κ : Nat → Nat) (y : MethodName) (b : ByteArray) (nL : Nat) (fr lo : Nat) (av : List Value) (σ : rS) (Q : rS → Prop) : Prop := zMv l G y b nL fr lo 0 0 av (rW G κ σ) (rQv G κ Q)
section RCALL
variable {X : zX} {l : Launch} {G : zG} {y : MethodName} {cc : ByteArray} {nL fr lo mc ms : Nat} {lv : List (Nat × Value)} {k n pc : Nat} {st stk : List Value} {κ : Nat → Nat} {σ : rS}
variable {y' : MethodName} {b' : ByteArray} {nL' fr' lo' na idx : Nat} {ty : FieldType}
theorem y_reti {ty : FieldType} {x : Int} {Q : Int → rS → Prop} (hR : zRi X G nL cc ty mc ms (rQi G κ Q)) (hd : decode cc pc = .ok (.ireturn, 1)) (hn : narrow ty (iv x) = iv x) (hr : rng x) (hwf : rWF σ) (hk : k ≤ mc) (hn2 : n ≤ ms) (hq : Q x σ) : zS X G nL (rW G κ σ) lv k n pc [iv x] := hR _ _ _ _ _ _ hd hn hk hn2 ⟨x, σ, rfl, hr, hwf, rfl, hq⟩
theorem y_retv {Q : rS → Prop} (hR : zRv X G nL cc mc ms (rQv G κ Q)) (hd : decode cc pc = .ok (.return_, 1)) (hwf : rWF σ) (hk : k ≤ mc) (hn2 : n ≤ ms) (hq : Q σ) : zS X G nL (rW G κ σ) lv k n pc [] := hR _ _ _ _ _ hd hk hn2 ⟨σ, hwf, rfl, hq⟩
theorem r_nZ {x : Int} (h : x = 0 ∨ x = 1) : narrow .boolean (iv x) = iv x := by rcases h with rfl | rfl <;> rfl
theorem r_fZ {x : Int} (h : x = 0 ∨ x = 1) : fits .boolean (iv x) = true := by rcases h with rfl | rfl <;> rfl
theorem y_callVi (hC : zC X l G y cc nL fr lo mc ms) {ci N q : Nat} {T : u_T} {tyf : Nat → FieldType} {t : List (Nat × Nat)}  {As : List Value} {Q : Int → rS → Prop} (hM : rMi l G κ y' b' nL' ty fr' lo' (.ref (κ q) :: As) σ Q) (hDe : zDv y' b' nL' (some ty) na) (hF : zF ci y'.cls T N tyf) (ho : rOb ci N t q) (hd : decode cc pc = .ok (.invokevirtual idx, 3)) (hw : Cond.methodLink y.cls idx y' ∈ zT) (hst : stk = As.reverse ++ .ref (κ q) :: st) (hna : As.length = na) (hk : k + 0 ≤ mc) (hn : n + 0 ≤ ms) (hfr : fr' + 1 ≤ fr) (hlo : 8 + (nL' + 11) + lo' ≤ lo) (hm : (st.map fun v => v.category).sum ≤ 8) (kk : ∀ x σ', rng x → rWF σ' → Q x σ' → zS X G nL (rW G κ σ') lv k n (pc + 3) (iv x :: st)) : zS X G nL (rW G κ σ) lv k n pc stk := by
  obtain ⟨i, hi, hc⟩ := rW_at G κ σ ho.1
  rw [ho.2.2, r_rad ho.2.1] at hc
  exact z_callVi (wr := []) hC hM hDe hF i hc (List.range 178) [] (rW_all G κ σ) rfl rW_nd hd hw hst hna hk hn hfr hlo hm (fun r w ⟨x, σ', e, hr, hwf, e2, hq⟩ => by subst e e2; exact kk x σ' hr hwf hq)
theorem y_callVv (hC : zC X l G y cc nL fr lo mc ms) {ci N q : Nat} {T : u_T} {tyf : Nat → FieldType} {t : List (Nat × Nat)}  {As : List Value} {Q : rS → Prop} (hM : rMv l G κ y' b' nL' fr' lo' (.ref (κ q) :: As) σ Q) (hDe : zDv y' b' nL' none na) (hF : zF ci y'.cls T N tyf) (ho : rOb ci N t q) (hd : decode cc pc = .ok (.invokevirtual idx, 3)) (hw : Cond.methodLink y.cls idx y' ∈ zT) (hst : stk = As.reverse ++ .ref (κ q) :: st) (hna : As.length = na) (hk : k + 0 ≤ mc) (hn : n + 0 ≤ ms) (hfr : fr' + 1 ≤ fr) (hlo : 8 + (nL' + 11) + lo' ≤ lo) (hm : (st.map fun v => v.category).sum ≤ 8) (kk : ∀ σ', rWF σ' → Q σ' → zS X G nL (rW G κ σ') lv k n (pc + 3) st) : zS X G nL (rW G κ σ) lv k n pc stk := by
  obtain ⟨i, hi, hc⟩ := rW_at G κ σ ho.1
  rw [ho.2.2, r_rad ho.2.1] at hc
  exact z_callVv (wr := []) hC hM hDe hF i hc (List.range 178) [] (rW_all G κ σ) rfl rW_nd hd hw hst hna hk hn hfr hlo hm (fun w ⟨σ', hwf, e2, hq⟩ => by subst e2; exact kk σ' hwf hq)
theorem y_callVNi (hC : zC X l G y cc nL fr lo mc ms) {host : String} {ci N q : Nat} {T : u_T} {tyf : Nat → FieldType} {t : List (Nat × Nat)}  {As : List Value} {Q : Int → rS → Prop} (hM : rMi l G κ y' b' nL' ty fr' lo' (.ref (κ q) :: As) σ Q) (hDe : zDv y' b' nL' (some ty) na) (hF : zF ci y'.cls T N tyf) (ho : rOb ci N t q) (hd : decode cc pc = .ok (.invokevirtual idx, 3)) (hw : Cond.methodLinkNest y.cls idx y' host ∈ zNest) (hst : stk = As.reverse ++ .ref (κ q) :: st) (hna : As.length = na) (hk : k + 0 ≤ mc) (hn : n + 0 ≤ ms) (hfr : fr' + 1 ≤ fr) (hlo : 8 + (nL' + 11) + lo' ≤ lo) (hm : (st.map fun v => v.category).sum ≤ 8) (kk : ∀ x σ', rng x → rWF σ' → Q x σ' → zS X G nL (rW G κ σ') lv k n (pc + 3) (iv x :: st)) : zS X G nL (rW G κ σ) lv k n pc stk := by
  obtain ⟨i, hi, hc⟩ := rW_at G κ σ ho.1
  rw [ho.2.2, r_rad ho.2.1] at hc
  exact z_callVNi (wr := []) hC hM hDe hF i hc (List.range 178) [] (rW_all G κ σ) rfl rW_nd hd hw hst hna hk hn hfr hlo hm (fun r w ⟨x, σ', e, hr, hwf, e2, hq⟩ => by subst e e2; exact kk x σ' hr hwf hq)
theorem y_callVNv (hC : zC X l G y cc nL fr lo mc ms) {host : String} {ci N q : Nat} {T : u_T} {tyf : Nat → FieldType} {t : List (Nat × Nat)}  {As : List Value} {Q : rS → Prop} (hM : rMv l G κ y' b' nL' fr' lo' (.ref (κ q) :: As) σ Q) (hDe : zDv y' b' nL' none na) (hF : zF ci y'.cls T N tyf) (ho : rOb ci N t q) (hd : decode cc pc = .ok (.invokevirtual idx, 3)) (hw : Cond.methodLinkNest y.cls idx y' host ∈ zNest) (hst : stk = As.reverse ++ .ref (κ q) :: st) (hna : As.length = na) (hk : k + 0 ≤ mc) (hn : n + 0 ≤ ms) (hfr : fr' + 1 ≤ fr) (hlo : 8 + (nL' + 11) + lo' ≤ lo) (hm : (st.map fun v => v.category).sum ≤ 8) (kk : ∀ σ', rWF σ' → Q σ' → zS X G nL (rW G κ σ') lv k n (pc + 3) st) : zS X G nL (rW G κ σ) lv k n pc stk := by
  obtain ⟨i, hi, hc⟩ := rW_at G κ σ ho.1
  rw [ho.2.2, r_rad ho.2.1] at hc
  exact z_callVNv (wr := []) hC hM hDe hF i hc (List.range 178) [] (rW_all G κ σ) rfl rW_nd hd hw hst hna hk hn hfr hlo hm (fun w ⟨σ', hwf, e2, hq⟩ => by subst e2; exact kk σ' hwf hq)
theorem y_callSi (hC : zC X l G y cc nL fr lo mc ms) {As : List Value} {Q : Int → rS → Prop} (hM : rMi l G κ y' b' nL' ty fr' lo' As σ Q) (hDe : zDs y' b' nL' (some ty) na)  (hd : decode cc pc = .ok (.invokestatic idx, 3)) (hw : Cond.methodLink y.cls idx y' ∈ zT) (hst : stk = As.reverse ++ st) (hna : As.length = na) (hk : k + 0 ≤ mc) (hn : n + 0 ≤ ms) (hfr : fr' + 1 ≤ fr) (hlo : 8 + (nL' + 11) + lo' ≤ lo) (hm : (st.map fun v => v.category).sum ≤ 8) (kk : ∀ x σ', rng x → rWF σ' → Q x σ' → zS X G nL (rW G κ σ') lv k n (pc + 3) (iv x :: st)) : zS X G nL (rW G κ σ) lv k n pc stk := by
  exact z_callSi (wr := []) hC hM hDe (List.range 178) [] (rW_all G κ σ) rfl rW_nd hd hw hst hna hk hn hfr hlo hm (fun r w ⟨x, σ', e, hr, hwf, e2, hq⟩ => by subst e e2; exact kk x σ' hr hwf hq)
theorem y_callSv (hC : zC X l G y cc nL fr lo mc ms) {As : List Value} {Q : rS → Prop} (hM : rMv l G κ y' b' nL' fr' lo' As σ Q) (hDe : zDs y' b' nL' none na)  (hd : decode cc pc = .ok (.invokestatic idx, 3)) (hw : Cond.methodLink y.cls idx y' ∈ zT) (hst : stk = As.reverse ++ st) (hna : As.length = na) (hk : k + 0 ≤ mc) (hn : n + 0 ≤ ms) (hfr : fr' + 1 ≤ fr) (hlo : 8 + (nL' + 11) + lo' ≤ lo) (hm : (st.map fun v => v.category).sum ≤ 8) (kk : ∀ σ', rWF σ' → Q σ' → zS X G nL (rW G κ σ') lv k n (pc + 3) st) : zS X G nL (rW G κ σ) lv k n pc stk := by
  exact z_callSv (wr := []) hC hM hDe (List.range 178) [] (rW_all G κ σ) rfl rW_nd hd hw hst hna hk hn hfr hlo hm (fun w ⟨σ', hwf, e2, hq⟩ => by subst e2; exact kk σ' hwf hq)
theorem y_callSNi (hC : zC X l G y cc nL fr lo mc ms) {host : String} {As : List Value} {Q : Int → rS → Prop} (hM : rMi l G κ y' b' nL' ty fr' lo' As σ Q) (hDe : zDs y' b' nL' (some ty) na)  (hd : decode cc pc = .ok (.invokestatic idx, 3)) (hw : Cond.methodLinkNest y.cls idx y' host ∈ zNest) (hst : stk = As.reverse ++ st) (hna : As.length = na) (hk : k + 0 ≤ mc) (hn : n + 0 ≤ ms) (hfr : fr' + 1 ≤ fr) (hlo : 8 + (nL' + 11) + lo' ≤ lo) (hm : (st.map fun v => v.category).sum ≤ 8) (kk : ∀ x σ', rng x → rWF σ' → Q x σ' → zS X G nL (rW G κ σ') lv k n (pc + 3) (iv x :: st)) : zS X G nL (rW G κ σ) lv k n pc stk := by
  exact z_callSNi (wr := []) hC hM hDe (List.range 178) [] (rW_all G κ σ) rfl rW_nd hd hw hst hna hk hn hfr hlo hm (fun r w ⟨x, σ', e, hr, hwf, e2, hq⟩ => by subst e e2; exact kk x σ' hr hwf hq)
theorem y_callSNv (hC : zC X l G y cc nL fr lo mc ms) {host : String} {As : List Value} {Q : rS → Prop} (hM : rMv l G κ y' b' nL' fr' lo' As σ Q) (hDe : zDs y' b' nL' none na)  (hd : decode cc pc = .ok (.invokestatic idx, 3)) (hw : Cond.methodLinkNest y.cls idx y' host ∈ zNest) (hst : stk = As.reverse ++ st) (hna : As.length = na) (hk : k + 0 ≤ mc) (hn : n + 0 ≤ ms) (hfr : fr' + 1 ≤ fr) (hlo : 8 + (nL' + 11) + lo' ≤ lo) (hm : (st.map fun v => v.category).sum ≤ 8) (kk : ∀ σ', rWF σ' → Q σ' → zS X G nL (rW G κ σ') lv k n (pc + 3) st) : zS X G nL (rW G κ σ) lv k n pc stk := by
  exact z_callSNv (wr := []) hC hM hDe (List.range 178) [] (rW_all G κ σ) rfl rW_nd hd hw hst hna hk hn hfr hlo hm (fun w ⟨σ', hwf, e2, hq⟩ => by subst e2; exact kk σ' hwf hq)
end RCALL
/-- what is left as it was: fields and arrays of the object and of the groups (bits say what may change) -/
def rKeep (a b c d e : Nat) (σ σ' : rS) : Prop := (∀ f, a.testBit f = false → rF σ' 0 f = rF σ 0 f) ∧ (∀ k f, 0 < k → b.testBit f = false → rF σ' k f = rF σ k f) ∧ (∀ f i, f < 1000 → c.testBit f = false → rA σ' (1000 + f) i = rA σ (1000 + f) i) ∧ (∀ k f i, 0 < k → f < 1000 → d.testBit f = false → rA σ' (1000 * (k + 1) + f) i = rA σ (1000 * (k + 1) + f) i) ∧ (∀ f, e.testBit f = false → rR σ' f = rR σ f) ∧ (∀ p i, 5000 ≤ p → rA σ' p i = rA σ p i) ∧ (∀ f i, f < 1000 → c.testBit f = false → rL σ' (1000 + f) i = rL σ (1000 + f) i)
theorem rKeep.rf {a b c d e : Nat} {σ : rS} : rKeep a b c d e σ σ := ⟨fun _ _ => rfl, fun _ _ _ _ => rfl, fun _ _ _ _ => rfl, fun _ _ _ _ _ _ => rfl, fun _ _ => rfl, fun _ _ _ => rfl, fun _ _ _ _ => rfl⟩
theorem rKeep.bits {a a' f : Nat} (h : a' ||| a = a) (hf : a.testBit f = false) : a'.testBit f = false := by
  have h3 := congrArg (fun n => n.testBit f) h
  simp only [Nat.testBit_or, hf, Bool.or_false] at h3
  exact h3
theorem rKeep.tr {a b c d e a' b' c' d' e' : Nat} {s t u : rS} (h : rKeep a b c d e s t) (h' : rKeep a' b' c' d' e' t u) (ha : a' ||| a = a) (hb : b' ||| b = b) (hc : c' ||| c = c) (hd : d' ||| d = d) (he : e' ||| e = e) : rKeep a b c d e s u :=
  ⟨fun f g => (h'.1 f (rKeep.bits ha g)).trans (h.1 f g), fun k f k0 g => (h'.2.1 k f k0 (rKeep.bits hb g)).trans (h.2.1 k f k0 g), fun f i f1 g => (h'.2.2.1 f i f1 (rKeep.bits hc g)).trans (h.2.2.1 f i f1 g), fun k f i k0 f1 g => (h'.2.2.2.1 k f i k0 f1 (rKeep.bits hd g)).trans (h.2.2.2.1 k f i k0 f1 g), fun f g => (h'.2.2.2.2.1 f (rKeep.bits he g)).trans (h.2.2.2.2.1 f g), fun p i hp => (h'.2.2.2.2.2.1 p i hp).trans (h.2.2.2.2.2.1 p i hp), fun f i f1 g => (h'.2.2.2.2.2.2 f i f1 (rKeep.bits hc g)).trans (h.2.2.2.2.2.2 f i f1 g)⟩
theorem rKeep.F {a b c d e f : Nat} {s t : rS} (h : rKeep a b c d e s t) (g : a.testBit f = false) : rF t 0 f = rF s 0 f := h.1 f g
theorem rKeep.FG {a b c d e f k : Nat} {s t : rS} (h : rKeep a b c d e s t) (k0 : rgk k) (g : b.testBit f = false) : rF t k f = rF s k f := h.2.1 k f (by rcases k0 with rfl | rfl | rfl <;> decide) g
theorem rKeep.A {a b c d e f : Nat} {i : Int} {s t : rS} (h : rKeep a b c d e s t) (f1 : f < 1000) (g : c.testBit f = false) : rA t (1000 + f) i = rA s (1000 + f) i := h.2.2.1 f i f1 g
theorem rKeep.AG {a b c d e f k : Nat} {i : Int} {s t : rS} (h : rKeep a b c d e s t) (k0 : rgk k) (f1 : f < 1000) (g : d.testBit f = false) : rA t (1000 * (k + 1) + f) i = rA s (1000 * (k + 1) + f) i := h.2.2.2.1 k f i (by rcases k0 with rfl | rfl | rfl <;> decide) f1 g
theorem rKeep.R {a b c d e f : Nat} {s t : rS} (h : rKeep a b c d e s t) (g : e.testBit f = false) : rR t f = rR s f := h.2.2.2.2.1 f g
theorem rKeep.FL {a b c d e p : Nat} {i : Int} {s t : rS} (h : rKeep a b c d e s t) (hp : 5000 ≤ p) : rA t p i = rA s p i := h.2.2.2.2.2.1 p i hp
theorem rKeep.L {a b c d e f : Nat} {i : Int} {s t : rS} (h : rKeep a b c d e s t) (f1 : f < 1000) (g : c.testBit f = false) : rL t (1000 + f) i = rL s (1000 + f) i := h.2.2.2.2.2.2 f i f1 g
theorem rKeep.sF0 {f : Nat} {x : Int} {s : rS} : rKeep (2 ^ f) 0 0 0 0 s (sF s 0 f x) := ⟨fun f' g => F_sF_ne (fun h => by subst h; rw [Nat.testBit_two_pow_self] at g; cases g), fun k f' k0 _ => F_sF_nq (by omega), fun _ _ _ _ => rfl, fun _ _ _ _ _ _ => rfl, fun _ _ => rfl, fun _ _ _ => rfl, fun _ _ _ _ => rfl⟩
theorem rKeep.sFk {f k : Nat} {x : Int} {s : rS} (hk : rgk k) : rKeep 0 (2 ^ f) 0 0 0 s (sF s k f x) := ⟨fun f' _ => F_sF_nq (by rcases hk with rfl | rfl | rfl <;> decide), fun k' f' k0 g => F_sF_ne (fun h => by subst h; rw [Nat.testBit_two_pow_self] at g; cases g), fun _ _ _ _ => rfl, fun _ _ _ _ _ _ => rfl, fun _ _ => rfl, fun _ _ _ => rfl, fun _ _ _ _ => rfl⟩
theorem rKeep.sA0 {f : Nat} {i x : Int} {s : rS} (hf : f < 1000) : rKeep 0 0 (2 ^ f) 0 0 s (sA s (1000 + f) i x) := ⟨fun _ _ => rfl, fun _ _ _ _ => rfl, fun f' i' _ g => A_sA_ne (fun h => by
  have h2 : f' = f := by omega
  subst h2; rw [Nat.testBit_two_pow_self] at g; cases g), fun k f' i' k0 f1 _ => A_sA_ne (by omega), fun _ _ => rfl, fun p i' hp => A_sA_ne (by omega), fun _ _ _ _ => rfl⟩
theorem rKeep.sAk {f k : Nat} {i x : Int} {s : rS} (hk : rgk k) (hf : f < 1000) : rKeep 0 0 0 (2 ^ f) 0 s (sA s (1000 * (k + 1) + f) i x) := ⟨fun _ _ => rfl, fun _ _ _ _ => rfl, fun f' i' f1 _ => A_sA_ne (by rcases hk with rfl | rfl | rfl <;> omega), fun k' f' i' k0 f1 g => A_sA_ne (fun h => by
  have h2 : f' = f := by omega
  subst h2; rw [Nat.testBit_two_pow_self] at g; cases g), fun _ _ => rfl, fun p i' hp => A_sA_ne (by rcases hk with rfl | rfl | rfl <;> omega), fun _ _ _ _ => rfl⟩
theorem rKeep.sR0 {f v : Nat} {s : rS} : rKeep 0 0 0 0 (2 ^ f) s (sR s f v) := ⟨fun _ _ => rfl, fun _ _ _ _ => rfl, fun _ _ _ _ => rfl, fun _ _ _ _ _ _ => rfl, fun f' g => if_neg (fun h => by subst h; rw [Nat.testBit_two_pow_self] at g; cases g), fun _ _ _ => rfl, fun _ _ _ _ => rfl⟩
