/-! ===== rows of a sentence that is kept: the first k + 1 of them lead downwards ===== -/
theorem agr_nil {h0 h1 : List AE} (h : Agr [] h0 h1) (a i : Nat) : hq h1 a i = hq h0 a i := h.2 a i rfl
theorem rb_agr {t : RTB} {h0 h1 : List AE} (h : ∀ a i, hq h1 a i = hq h0 a i) (hT : RB1 t h0) : RB1 t h1 := by
  intro i n g v q1 q2 q3 q4
  rw [h] at q1 q3 q4
  exact hT i n g v q1 q2 q3 q4
/-- a method that writes nothing keeps more tables than it was looked at under -/
theorem co_tr {G G2 : GT} {M : MT} {C : CO} (h1 : G2.1 = G.1) (h2 : ∀ t ∈ G.2, t ∈ G2.2) (hW : cW C = []) (h : CoOk G M C) : CoOk G2 M C := by
  refine ⟨h.1, h.2.1, fun ρ As hp a1 a2 a3 a4 => ?_⟩
  have b4 : hp_ok G hp := ⟨fun a ct hc => a4.1 a ct (by rw [h1]; exact hc), fun t ht => a4.2 t (h2 t ht)⟩
  obtain ⟨q, hr, e1, e2, e3⟩ := h.2.2 ρ As hp a1 a2 a3 b4
  refine ⟨q, hr, e1, ⟨fun a ct hc => e2.1 a ct (by rw [← h1]; exact hc), fun t ht => rb_agr (fun a i => ?_) (a4.2 t ht)⟩, e3⟩
  rw [hW] at e1
  exact agr_nil e1 a i
def rb0 : Nat → Int → List (Int × Int × Int × Int)
  | 0, _ => []
  | n + 1, g => [(g, 3, 0, (n : Int))]
def rbx (r : Nat) (g : Int) : List (Int × Int × Int × Int) := rb0 r g ++ [(-2147483648, g - 1, -2147483648, 2147483647), (4, 2147483647, -2147483648, 2147483647)]
def rt2 (r : Nat) : List RTB := [(182, 1000, 157 + 4 * r, 182, 1000, 156 + 4 * r, 182, 154, rbx r 1), (182, 1000, 158 + 4 * r, 182, 1000, 156 + 4 * r, 182, 154, rbx r 2)]
def rts : Nat → List RTB
  | 0 => rt2 0
  | k + 1 => rt2 (k + 1) ++ rts k
def GK (k : Nat) : GT := (GG.1, GG.2 ++ rts k)
theorem gk_up {k : Nat} : ∀ t ∈ (GK k).2, t ∈ (GK (k + 1)).2 := fun t ht => by
  rcases List.mem_append.mp ht with h | h
  · exact List.mem_append_left _ h
  · exact List.mem_append_right _ (List.mem_append_right _ h)
theorem gk_gg {k : Nat} : ∀ t ∈ GG.2, t ∈ (GK k).2 := fun _ ht => List.mem_append_left _ ht
/-- holds at the row k; holds at a row up to k -/
def KK (k d : Nat) : CO := (211, d, [(0, 0, 0, 0, 0, 0), (0, 6, 0, 0, 0, 6)], [(2, 180, 0), (0, 0, (k : Int)), (0, 1, 0)], [(182, 154, (0, 0, 1))], [(1, 2, 0)], [(some (0, 0, 0), [(0, 0, 0, 0, 0, 0), (0, 6, 0, 0, 0, 6)], [], []), (some (0, 0, 1), [(0, 0, 0, 0, 0, 0), (0, 6, 0, 0, 0, 6)], [], [])], [], [], [(182, 156 + 4 * k, 0)], [])
def DD (k d : Nat) : CO := (211, d, [(0, 0, 0, 0, 0, 0), (0, (k : Int), 0, 0, 0, (k : Int)), (0, 6, 0, 0, 0, 6)], [(2, 180, 0), (0, 1, 0), (0, 2, 0)], [(182, 154, (0, 0, 1))], [(1, 1, 0), (1, 2, 0)], [(some (0, 0, 0), [(0, 0, 0, 0, 0, 0), (0, (k : Int), 0, 0, 0, (k : Int)), (0, 6, 0, 0, 0, 6)], [], []), (some (0, 0, 1), [(0, 0, 0, 0, 0, 0), (0, (k : Int), 0, 0, 0, (k : Int)), (0, 6, 0, 0, 0, 6)], [], [])], [], [], [], [])
theorem en2 {x y : Int} {k : Int} (h1 : 0 ≤ x) (h2 : x ≤ k) (h3 : 0 ≤ y) (h4 : y ≤ 6) : en_ok [0, x, y] [(0, 0, 0, 0, 0, 0), (0, k, 0, 0, 0, k), (0, 6, 0, 0, 0, 6)] := by
  refine ⟨rfl, rfl, fun j e hj => ?_⟩
  match j, hj with
  | 0, hj => cases hj; exact ⟨0, 0, 0, rfl, by decide, by decide, rfl, by decide, rfl, by decide⟩
  | 1, hj => cases hj; exact ⟨x, 0, 0, rfl, h1, h2, rfl, by simp only; omega, rfl, by simp only; omega⟩
  | 2, hj => cases hj; exact ⟨y, 0, 0, rfl, h3, h4, rfl, by simp only; omega, rfl, by simp only; omega⟩
  | j + 3, hj => cases hj
theorem en1 {y : Int} (h3 : 0 ≤ y) (h4 : y ≤ 6) : en_ok [0, y] [(0, 0, 0, 0, 0, 0), (0, 6, 0, 0, 0, 6)] := by
  refine ⟨rfl, rfl, fun j e hj => ?_⟩
  match j, hj with
  | 0, hj => cases hj; exact ⟨0, 0, 0, rfl, by decide, by decide, rfl, by decide, rfl, by decide⟩
  | 1, hj => cases hj; exact ⟨y, 0, 0, rfl, h3, h4, rfl, by simp only; omega, rfl, by simp only; omega⟩
  | j + 2, hj => cases hj
/-- what an entry up to k says -/
theorem en2_of {ρ : List Int} {k : Int} (h : en_ok ρ [(0, 0, 0, 0, 0, 0), (0, k, 0, 0, 0, k), (0, 6, 0, 0, 0, 6)]) : ∃ x y, ρ = [0, x, y] ∧ 0 ≤ x ∧ x ≤ k ∧ 0 ≤ y ∧ y ≤ 6 := by
  obtain ⟨h1, h2, h3⟩ := h
  obtain ⟨x, -, -, a1, a2, a3, -⟩ := h3 1 _ rfl
  obtain ⟨y, -, -, b1, b2, b3, -⟩ := h3 2 _ rfl
  match ρ, h1, h2, a1, b1 with
  | [r0, r1, r2], _, h2, a1, b1 => cases h2; cases a1; cases b1; exact ⟨_, _, rfl, a2, a3, b2, b3⟩
/-- an end that says no more than a constant answer -/
theorem end_cst {G : GT} {ρ σ : List Int} {hp : List AE} {q : ev_R} {C D : CO} {E F : EN} (hCO : cO C = [(some (0, 0, 0), E, [], []), (some (0, 0, 1), E, [], [])]) (hDO : cO D = [(some (0, 0, 0), F, [], []), (some (0, 0, 1), F, [], [])]) (hW : cW C = cW D) (hσ : σ[0]? = some 0) (hE : E.length = ρ.length) (hρ : ρ[0]? = some 0) (hF : en_ok σ F) (h : EndOk G C ρ hp q) : EndOk G D σ hp q := by
  obtain ⟨e1, e2, o, ho, τ, t1, -, t3⟩ := h
  have hl : ∀ c : Int, rt_ok (ρ ++ τ) (some (0, 0, c)) q.1 → rt_ok (σ ++ []) (some (0, 0, c)) q.1 := fun c hc => by
    cases hq1 : q.1 with
    | none => rw [hq1] at hc; exact hc.elim
    | some v =>
      rw [hq1] at hc
      obtain ⟨x, w, f1, f2, f3⟩ := (show sv_ok (ρ ++ τ) (0, 0, c) v from hc)
      have f4 : (ρ ++ τ)[0]? = some 0 := by
        cases ρ with
        | nil => cases hρ
        | cons r ρ => exact hρ
      rw [f4] at f2
      cases f2
      exact (show sv_ok (σ ++ []) (0, 0, c) v from ⟨x, 0, f1, by rw [List.append_nil]; exact hσ, f3⟩)
  rw [hCO] at ho
  refine ⟨by rw [← hW]; exact e1, e2, ?_⟩
  rw [hDO]
  rcases List.mem_cons.mp ho with rfl | ho
  · exact ⟨_, List.mem_cons_self, [], by rw [List.append_nil]; exact hF, fun q hq => (by cases hq), hl 0 t3⟩
  · rcases List.mem_cons.mp ho with rfl | ho
    · exact ⟨_, List.mem_cons_of_mem _ List.mem_cons_self, [], by rw [List.append_nil]; exact hF, fun q hq => (by cases hq), hl 1 t3⟩
    · cases ho
theorem ss3 {ρ : List Int} {a b c : SV} {As : List Value} (h : ss_ok ρ [a, b, c] As) : ∃ u v w, As = [u, v, w] ∧ sv_ok ρ a u ∧ sv_ok ρ b v ∧ sv_ok ρ c w := by
  match As, h with
  | [u, v, w], ⟨h1, h2, h3, _⟩ => exact ⟨u, v, w, rfl, h1, h2, h3⟩
theorem dk_at {G : GT} {M : MT} {k d d2 : Nat} (hK : CoOk G M (KK k d)) (hd : d ≤ d2) {ρ : List Int} {As : List Value} {hp : List AE} {n : Nat} {y : Int} (hρ : ρ = [0, (k : Int), y]) (hkn : k ≤ n) (hy : 0 ≤ y ∧ y ≤ 6) (hA : ss_ok ρ (cA (DD n d2)) As) (hP : sp_ok ρ (cP (DD n d2)) hp) (hG : hp_ok G hp) : ∃ q : ev_R, (∃ N, ∀ F, N ≤ F → ∀ d, d2 ≤ d → evF F M d 211 As hp = some q) ∧ EndOk G (DD n d2) ρ hp q := by
  subst hρ
  obtain ⟨u, v, w, rfl, s1, s2, s3⟩ := ss3 hA
  obtain ⟨x2, z2, r1, r2, r3⟩ := s2
  cases r2
  obtain ⟨x3, z3, p1, p2, p3⟩ := s3
  cases p2
  obtain ⟨q, ⟨N, hN⟩, he⟩ := hK.2.2 [0, y] [u, v, w] hp (en1 hy.1 hy.2) ⟨s1, ⟨x2, 0, r1, rfl, by omega⟩, ⟨x3, y, p1, rfl, p3⟩, trivial⟩ (fun q hq => by
    obtain ⟨v, h1, h2⟩ := hP q hq
    rcases List.mem_cons.mp hq with rfl | hq
    · obtain ⟨x, z, g1, g2, g3⟩ := h2
      cases g2
      exact ⟨v, h1, x, 0, g1, rfl, g3⟩
    · cases hq) hG
  refine ⟨q, ⟨N, fun F hF e he => hN F hF e (Nat.le_trans hd he)⟩, end_cst (C := KK k d) (D := DD n d2) rfl rfl rfl rfl rfl rfl (en2 (by omega) (by omega) hy.1 hy.2) he⟩
theorem dk_zero {G : GT} {M : MT} {d : Nat} (hK : CoOk G M (KK 0 d)) : CoOk G M (DD 0 d) := by
  refine ⟨hK.1, hK.2.1, fun ρ As hp a1 a2 a3 a4 => ?_⟩
  obtain ⟨x, y, hρ, b1, b2, b3, b4⟩ := en2_of a1
  have hx : x = ((0 : Nat) : Int) := by omega
  subst hx
  exact dk_at hK (Nat.le_refl _) hρ (Nat.le_refl _) ⟨b3, b4⟩ a2 a3 a4
theorem dk_succ {G : GT} {M : MT} {k d e : Nat} (hD : CoOk G M (DD k d)) (hK : CoOk G M (KK (k + 1) e)) (hd : d ≤ e) : CoOk G M (DD (k + 1) e) := by
  refine ⟨hK.1, hK.2.1, fun ρ As hp a1 a2 a3 a4 => ?_⟩
  obtain ⟨x, y, hρ, b1, b2, b3, b4⟩ := en2_of a1
  by_cases hx : x = ((k + 1 : Nat) : Int)
  · subst hx
    exact dk_at hK (Nat.le_refl _) hρ (Nat.le_refl _) ⟨b3, b4⟩ a2 a3 a4
  · subst hρ
    obtain ⟨q, ⟨N, hN⟩, he⟩ := hD.2.2 [0, x, y] As hp (en2 b1 (by omega) b3 b4) a2 a3 a4
    exact ⟨q, ⟨N, fun F hF g hg => hN F hF g (Nat.le_trans hd hg)⟩, end_cst (C := DD k d) (D := DD (k + 1) e) rfl rfl rfl rfl rfl rfl a1 he⟩
theorem gk_of {M : MT} {C : CO} (k : Nat) (hW : cW C = []) (h : CoOk GG M C) : CoOk (GK k) M C := co_tr (G := GG) (G2 := GK k) rfl gk_gg hW h
theorem gk_st {M : MT} {C : CO} (k : Nat) (hW : cW C = []) (h : CoOk (GK k) M C) : CoOk (GK (k + 1)) M C := co_tr (G := GK k) (G2 := GK (k + 1)) rfl gk_up hW h
