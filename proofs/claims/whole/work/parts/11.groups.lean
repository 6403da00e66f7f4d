/-! Groups on the numbers below N (0 the identity), what is generated, commutators, conjugates. Nothing of the machine. -/
def ga_ok {G : Type} (mu : G → G → G) (on : G) (iv : G → G) : Prop := (∀ a b c, mu (mu a b) c = mu a (mu b c)) ∧ (∀ a, mu on a = a) ∧ (∀ a, mu a on = a) ∧ (∀ a, mu (iv a) a = on) ∧ ∀ a, mu a (iv a) = on
def ga_cj {G : Type} (mu : G → G → G) (iv : G → G) (x g : G) : G := mu (mu (iv g) x) g
def ga_cm {G : Type} (mu : G → G → G) (iv : G → G) (a b : G) : G := mu (mu (iv a) (iv b)) (mu a b)
section
variable {G : Type} {mu : G → G → G} {on : G} {iv : G → G}
theorem ga_cl (g : ga_ok mu on iv) (a b : G) : mu (iv a) (mu a b) = b := by rw [← g.1, g.2.2.2.1, g.2.1]
theorem ga_cr (g : ga_ok mu on iv) (a b : G) : mu a (mu (iv a) b) = b := by rw [← g.1, g.2.2.2.2, g.2.1]
theorem ga_lc (g : ga_ok mu on iv) (a : G) {b c : G} (h : mu a b = mu a c) : b = c := by rw [← ga_cl g a b, h, ga_cl g]
theorem ga_ii (g : ga_ok mu on iv) (a : G) : iv (iv a) = a := ga_lc g (iv a) (by rw [g.2.2.2.2, g.2.2.2.1])
theorem ga_im (g : ga_ok mu on iv) (a b : G) : iv (mu a b) = mu (iv b) (iv a) := ga_lc g (mu a b) (by rw [g.2.2.2.2, g.1, ga_cr g, g.2.2.2.2])
theorem ga_i1 (g : ga_ok mu on iv) : iv on = on := by
  have h := g.2.2.2.2 on
  rwa [g.2.1] at h
theorem ga_k1 (g : ga_ok mu on iv) (x a b : G) : ga_cj mu iv x (mu a b) = ga_cj mu iv (ga_cj mu iv x a) b := by
  simp only [ga_cj, ga_cm, g.1, g.2.1, g.2.2.1, g.2.2.2.1, g.2.2.2.2, ga_cl g, ga_cr g, ga_ii g, ga_im g, ga_i1 g]
theorem ga_k2 (g : ga_ok mu on iv) (x y a : G) : ga_cj mu iv (mu x y) a = mu (ga_cj mu iv x a) (ga_cj mu iv y a) := by
  simp only [ga_cj, ga_cm, g.1, g.2.1, g.2.2.1, g.2.2.2.1, g.2.2.2.2, ga_cl g, ga_cr g, ga_ii g, ga_im g, ga_i1 g]
theorem ga_k3 (g : ga_ok mu on iv) (x a : G) : ga_cj mu iv (iv x) a = iv (ga_cj mu iv x a) := by
  simp only [ga_cj, ga_cm, g.1, g.2.1, g.2.2.1, g.2.2.2.1, g.2.2.2.2, ga_cl g, ga_cr g, ga_ii g, ga_im g, ga_i1 g]
theorem ga_k4 (g : ga_ok mu on iv) (x a : G) : ga_cj mu iv (ga_cj mu iv x a) (iv a) = x := by
  simp only [ga_cj, ga_cm, g.1, g.2.1, g.2.2.1, g.2.2.2.1, g.2.2.2.2, ga_cl g, ga_cr g, ga_ii g, ga_im g, ga_i1 g]
theorem ga_k5 (g : ga_ok mu on iv) (x y b : G) : ga_cm mu iv (mu x y) b = mu (ga_cj mu iv (ga_cm mu iv x b) y) (ga_cm mu iv y b) := by
  simp only [ga_cj, ga_cm, g.1, g.2.1, g.2.2.1, g.2.2.2.1, g.2.2.2.2, ga_cl g, ga_cr g, ga_ii g, ga_im g, ga_i1 g]
theorem ga_k6 (g : ga_ok mu on iv) (x b : G) : ga_cm mu iv (iv x) b = iv (ga_cj mu iv (ga_cm mu iv x b) (iv x)) := by
  simp only [ga_cj, ga_cm, g.1, g.2.1, g.2.2.1, g.2.2.2.1, g.2.2.2.2, ga_cl g, ga_cr g, ga_ii g, ga_im g, ga_i1 g]
theorem ga_k7 (g : ga_ok mu on iv) (a b : G) : iv (ga_cm mu iv a b) = ga_cm mu iv b a := by
  simp only [ga_cj, ga_cm, g.1, g.2.1, g.2.2.1, g.2.2.2.1, g.2.2.2.2, ga_cl g, ga_cr g, ga_ii g, ga_im g, ga_i1 g]
theorem ga_k8 (g : ga_ok mu on iv) (a : G) : ga_cm mu iv a a = on := by
  simp only [ga_cj, ga_cm, g.1, g.2.1, g.2.2.1, g.2.2.2.1, g.2.2.2.2, ga_cl g, ga_cr g, ga_ii g, ga_im g, ga_i1 g]
theorem ga_k9 (g : ga_ok mu on iv) (k b c : G) : ga_cj mu iv (ga_cm mu iv k b) c = mu (ga_cm mu iv (mu k c) b) (iv (ga_cm mu iv c b)) := by
  simp only [ga_cj, ga_cm, g.1, g.2.1, g.2.2.1, g.2.2.2.1, g.2.2.2.2, ga_cl g, ga_cr g, ga_ii g, ga_im g, ga_i1 g]
theorem ga_k10 (g : ga_ok mu on iv) (t a : G) : ga_cj mu iv t a = mu t (ga_cm mu iv t a) := by
  simp only [ga_cj, ga_cm, g.1, g.2.1, g.2.2.1, g.2.2.2.1, g.2.2.2.2, ga_cl g, ga_cr g, ga_ii g, ga_im g, ga_i1 g]
theorem ga_k11 (g : ga_ok mu on iv) (x : G) : ga_cj mu iv x on = x := by
  simp only [ga_cj, ga_cm, g.1, g.2.1, g.2.2.1, g.2.2.2.1, g.2.2.2.2, ga_cl g, ga_cr g, ga_ii g, ga_im g, ga_i1 g]
theorem ga_k12 (g : ga_ok mu on iv) (b : G) : ga_cm mu iv on b = on := by
  simp only [ga_cj, ga_cm, g.1, g.2.1, g.2.2.1, g.2.2.2.1, g.2.2.2.2, ga_cl g, ga_cr g, ga_ii g, ga_im g, ga_i1 g]
theorem ga_k13 (g : ga_ok mu on iv) (a : G) : ga_cj mu iv on a = on := by
  simp only [ga_cj, ga_cm, g.1, g.2.1, g.2.2.1, g.2.2.2.1, g.2.2.2.2, ga_cl g, ga_cr g, ga_ii g, ga_im g, ga_i1 g]
end
/-- a group on the numbers below N -/
def gp_ok (N : Nat) (mu : Nat → Nat → Nat) (iv : Nat → Nat) : Prop := 0 < N ∧ (∀ a b, a < N → b < N → mu a b < N) ∧ (∀ a, a < N → iv a < N) ∧ (∀ a b c, a < N → b < N → c < N → mu (mu a b) c = mu a (mu b c)) ∧ (∀ a, a < N → mu 0 a = a) ∧ (∀ a, a < N → mu a 0 = a) ∧ (∀ a, a < N → mu (iv a) a = 0) ∧ ∀ a, a < N → mu a (iv a) = 0
section
variable {N : Nat} {mu : Nat → Nat → Nat} {iv : Nat → Nat}
theorem gp_0 (g : gp_ok N mu iv) : 0 < N := g.1
theorem gp_m (g : gp_ok N mu iv) {a b : Nat} (ha : a < N) (hb : b < N) : mu a b < N := g.2.1 a b ha hb
theorem gp_i (g : gp_ok N mu iv) {a : Nat} (ha : a < N) : iv a < N := g.2.2.1 a ha
theorem gp_as (g : gp_ok N mu iv) {a b c : Nat} (ha : a < N) (hb : b < N) (hc : c < N) : mu (mu a b) c = mu a (mu b c) := g.2.2.2.1 a b c ha hb hc
theorem gp_ol (g : gp_ok N mu iv) {a : Nat} (ha : a < N) : mu 0 a = a := g.2.2.2.2.1 a ha
theorem gp_or (g : gp_ok N mu iv) {a : Nat} (ha : a < N) : mu a 0 = a := g.2.2.2.2.2.1 a ha
theorem gp_il (g : gp_ok N mu iv) {a : Nat} (ha : a < N) : mu (iv a) a = 0 := g.2.2.2.2.2.2.1 a ha
theorem gp_ir (g : gp_ok N mu iv) {a : Nat} (ha : a < N) : mu a (iv a) = 0 := g.2.2.2.2.2.2.2 a ha
def gp_fm (g : gp_ok N mu iv) : Fin N → Fin N → Fin N := fun a b => ⟨mu a.1 b.1, gp_m g a.2 b.2⟩
def gp_fi (g : gp_ok N mu iv) : Fin N → Fin N := fun a => ⟨iv a.1, gp_i g a.2⟩
def gp_fo (g : gp_ok N mu iv) : Fin N := ⟨0, gp_0 g⟩
theorem gp_fin (g : gp_ok N mu iv) : ga_ok (gp_fm g) (gp_fo g) (gp_fi g) :=
  ⟨fun a b c => Fin.ext (gp_as g a.2 b.2 c.2), fun a => Fin.ext (gp_ol g a.2), fun a => Fin.ext (gp_or g a.2), fun a => Fin.ext (gp_il g a.2), fun a => Fin.ext (gp_ir g a.2)⟩
theorem gp_cjl (g : gp_ok N mu iv) {x a : Nat} (hx : x < N) (ha : a < N) : ga_cj mu iv x a < N := gp_m g (gp_m g (gp_i g ha) hx) ha
theorem gp_cml (g : gp_ok N mu iv) {a b : Nat} (ha : a < N) (hb : b < N) : ga_cm mu iv a b < N := gp_m g (gp_m g (gp_i g ha) (gp_i g hb)) (gp_m g ha hb)
theorem gp_rc (g : gp_ok N mu iv) {a b c : Nat} (ha : a < N) (hb : b < N) (hc : c < N) (h : mu a c = mu b c) : a = b := by
  rw [← gp_or g ha, ← gp_ir g hc, ← gp_as g ha hc (gp_i g hc), h, gp_as g hb hc (gp_i g hc), gp_ir g hc, gp_or g hb]
theorem gp_ii (g : gp_ok N mu iv) {a : Nat} (ha : a < N) : iv (iv a) = a := congrArg Fin.val (ga_ii (gp_fin g) ⟨a, ha⟩)
theorem gp_i0 (g : gp_ok N mu iv) : iv 0 = 0 := congrArg Fin.val (ga_i1 (gp_fin g))
theorem gp_k1 (g : gp_ok N mu iv) {x a b : Nat} (hx : x < N) (ha : a < N) (hb : b < N) : ga_cj mu iv x (mu a b) = ga_cj mu iv (ga_cj mu iv x a) b := congrArg Fin.val (ga_k1 (gp_fin g) ⟨x, hx⟩ ⟨a, ha⟩ ⟨b, hb⟩)
theorem gp_k2 (g : gp_ok N mu iv) {x y a : Nat} (hx : x < N) (hy : y < N) (ha : a < N) : ga_cj mu iv (mu x y) a = mu (ga_cj mu iv x a) (ga_cj mu iv y a) := congrArg Fin.val (ga_k2 (gp_fin g) ⟨x, hx⟩ ⟨y, hy⟩ ⟨a, ha⟩)
theorem gp_k3 (g : gp_ok N mu iv) {x a : Nat} (hx : x < N) (ha : a < N) : ga_cj mu iv (iv x) a = iv (ga_cj mu iv x a) := congrArg Fin.val (ga_k3 (gp_fin g) ⟨x, hx⟩ ⟨a, ha⟩)
theorem gp_k4 (g : gp_ok N mu iv) {x a : Nat} (hx : x < N) (ha : a < N) : ga_cj mu iv (ga_cj mu iv x a) (iv a) = x := congrArg Fin.val (ga_k4 (gp_fin g) ⟨x, hx⟩ ⟨a, ha⟩)
theorem gp_k5 (g : gp_ok N mu iv) {x y b : Nat} (hx : x < N) (hy : y < N) (hb : b < N) : ga_cm mu iv (mu x y) b = mu (ga_cj mu iv (ga_cm mu iv x b) y) (ga_cm mu iv y b) := congrArg Fin.val (ga_k5 (gp_fin g) ⟨x, hx⟩ ⟨y, hy⟩ ⟨b, hb⟩)
theorem gp_k6 (g : gp_ok N mu iv) {x b : Nat} (hx : x < N) (hb : b < N) : ga_cm mu iv (iv x) b = iv (ga_cj mu iv (ga_cm mu iv x b) (iv x)) := congrArg Fin.val (ga_k6 (gp_fin g) ⟨x, hx⟩ ⟨b, hb⟩)
theorem gp_k7 (g : gp_ok N mu iv) {a b : Nat} (ha : a < N) (hb : b < N) : iv (ga_cm mu iv a b) = ga_cm mu iv b a := congrArg Fin.val (ga_k7 (gp_fin g) ⟨a, ha⟩ ⟨b, hb⟩)
theorem gp_k8 (g : gp_ok N mu iv) {a : Nat} (ha : a < N) : ga_cm mu iv a a = 0 := congrArg Fin.val (ga_k8 (gp_fin g) ⟨a, ha⟩)
theorem gp_k9 (g : gp_ok N mu iv) {k b c : Nat} (hk : k < N) (hb : b < N) (hc : c < N) : ga_cj mu iv (ga_cm mu iv k b) c = mu (ga_cm mu iv (mu k c) b) (iv (ga_cm mu iv c b)) := congrArg Fin.val (ga_k9 (gp_fin g) ⟨k, hk⟩ ⟨b, hb⟩ ⟨c, hc⟩)
theorem gp_k10 (g : gp_ok N mu iv) {t a : Nat} (ht : t < N) (ha : a < N) : ga_cj mu iv t a = mu t (ga_cm mu iv t a) := congrArg Fin.val (ga_k10 (gp_fin g) ⟨t, ht⟩ ⟨a, ha⟩)
theorem gp_k11 (g : gp_ok N mu iv) {x : Nat} (hx : x < N) : ga_cj mu iv x 0 = x := congrArg Fin.val (ga_k11 (gp_fin g) ⟨x, hx⟩)
theorem gp_k12 (g : gp_ok N mu iv) {b : Nat} (hb : b < N) : ga_cm mu iv 0 b = 0 := congrArg Fin.val (ga_k12 (gp_fin g) ⟨b, hb⟩)
theorem gp_k13 (g : gp_ok N mu iv) {a : Nat} (ha : a < N) : ga_cj mu iv 0 a = 0 := congrArg Fin.val (ga_k13 (gp_fin g) ⟨a, ha⟩)
end
def gp_sg (N : Nat) (mu : Nat → Nat → Nat) (iv : Nat → Nat) (T : Nat → Prop) : Prop := T 0 ∧ (∀ a, T a → a < N) ∧ (∀ a b, T a → T b → T (mu a b)) ∧ ∀ a, T a → T (iv a)
/-- S is what the first k of gs generate -/
def gp_gen (N : Nat) (mu : Nat → Nat → Nat) (iv : Nat → Nat) (gs : Nat → Nat) (k : Nat) (S : Nat → Prop) : Prop := gp_sg N mu iv S ∧ (∀ i, i < k → S (gs i)) ∧ ∀ T, gp_sg N mu iv T → (∀ i, i < k → T (gs i)) → ∀ x, S x → T x
/-- T is what H and a generate -/
def gp_ext (N : Nat) (mu : Nat → Nat → Nat) (iv : Nat → Nat) (H : Nat → Prop) (a : Nat) (T : Nat → Prop) : Prop := gp_sg N mu iv T ∧ (∀ x, H x → T x) ∧ T a ∧ ∀ U, gp_sg N mu iv U → (∀ x, H x → U x) → U a → ∀ x, T x → U x
def gp_clo (N : Nat) (mu : Nat → Nat → Nat) (iv : Nat → Nat) (G H T : Nat → Prop) : Prop := gp_sg N mu iv T ∧ (∀ x, H x → T x) ∧ (∀ x g, T x → G g → T (ga_cj mu iv x g)) ∧ ∀ U, gp_sg N mu iv U → (∀ x, H x → U x) → (∀ x g, U x → G g → U (ga_cj mu iv x g)) → ∀ x, T x → U x
def gp_der (N : Nat) (mu : Nat → Nat → Nat) (iv : Nat → Nat) (G T : Nat → Prop) : Prop := gp_sg N mu iv T ∧ (∀ x y, G x → G y → T (ga_cm mu iv x y)) ∧ ∀ U, gp_sg N mu iv U → (∀ x y, G x → G y → U (ga_cm mu iv x y)) → ∀ x, T x → U x
section
variable {N : Nat} {mu : Nat → Nat → Nat} {iv : Nat → Nat}
/-- the whole group -/
theorem gp_all (g : gp_ok N mu iv) : gp_sg N mu iv (fun a => a < N) := ⟨gp_0 g, fun _ h => h, fun _ _ ha hb => gp_m g ha hb, fun _ h => gp_i g h⟩
theorem gp_one (g : gp_ok N mu iv) : gp_sg N mu iv (fun a => a = 0) := ⟨rfl, fun a h => by rw [h]; exact gp_0 g, fun a b ha hb => by rw [ha, hb]; exact gp_ol g (gp_0 g), fun a h => by rw [h]; exact gp_i0 g⟩
theorem gp_gen0 (g : gp_ok N mu iv) (gs : Nat → Nat) : gp_gen N mu iv gs 0 (fun a => a = 0) := ⟨gp_one g, fun i h => absurd h (Nat.not_lt_zero _), fun T hT _ x hx => by rw [hx]; exact hT.1⟩
/-- what is closed under the generators from the right, and no larger than need be, is generated -/
theorem gp_close (g : gp_ok N mu iv) {S : Nat → Prop} {gs : Nat → Nat} {k : Nat} (h0 : S 0) (hl : ∀ x, S x → x < N) (hg : ∀ i, i < k → gs i < N) (hc : ∀ x, S x → ∀ i, i < k → S (mu x (gs i))) (hm : ∀ T, gp_sg N mu iv T → (∀ i, i < k → T (gs i)) → ∀ x, S x → T x) : gp_gen N mu iv gs k S := by
  have hT : gp_sg N mu iv (fun b => b < N ∧ ∀ x, S x → S (mu x b)) := by
    refine ⟨⟨gp_0 g, fun x hx => by rw [gp_or g (hl x hx)]; exact hx⟩, fun a ha => ha.1, fun a b ha hb => ⟨gp_m g ha.1 hb.1, fun x hx => ?_⟩, fun a ha => ⟨gp_i g ha.1, fun x hx => ?_⟩⟩
    · rw [← gp_as g (hl x hx) ha.1 hb.1]
      exact hb.2 _ (ha.2 x hx)
    · obtain ⟨y, hy, he⟩ := ma_back (N := N) (S := S) (f := fun z => mu z a) hl (fun z hz => ha.2 z hz) (fun y z hy hz h => gp_rc g (hl y hy) (hl z hz) ha.1 h) hx
      have he : mu y a = x := he
      rw [← he, gp_as g (hl y hy) ha.1 (gp_i g ha.1), gp_ir g ha.1, gp_or g (hl y hy)]
      exact hy
  have hsub := hm _ hT (fun i hi => ⟨hg i hi, fun x hx => hc x hx i hi⟩)
  refine ⟨⟨h0, hl, fun a b ha hb => (hsub b hb).2 a ha, fun a ha => ?_⟩, fun i hi => ?_, hm⟩
  · have h1 := (hT.2.2.2 a (hsub a ha)).2 0 h0
    rwa [gp_ol g (gp_i g (hl a ha))] at h1
  · have h1 := hc 0 h0 i hi
    rwa [gp_ol g (hg i hi)] at h1
theorem gp_gen_lt {gs : Nat → Nat} {k : Nat} {S : Nat → Prop} (h : gp_gen N mu iv gs k S) {i : Nat} (hi : i < k) : gs i < N := h.1.2.1 _ (h.2.1 i hi)
theorem gp_gen_congr {gs gs' : Nat → Nat} {k : Nat} {S : Nat → Prop} (h : gp_gen N mu iv gs k S) (he : ∀ i, i < k → gs' i = gs i) : gp_gen N mu iv gs' k S :=
  ⟨h.1, fun i hi => by rw [he i hi]; exact h.2.1 i hi, fun T hT hg => h.2.2 T hT (fun i hi => by rw [← he i hi]; exact hg i hi)⟩
/-- one generator more: the row of generators and the set -/
theorem gp_grow (g : gp_ok N mu iv) {H S : Nat → Prop} {gs gs' : Nat → Nat} {k a : Nat} (hH : gp_gen N mu iv gs k H) (ha : a < N) (he : ∀ i, i < k → gs' i = gs i) (hk : gs' k = a) (h0 : S 0) (hl : ∀ x, S x → x < N) (hc : ∀ x, S x → ∀ i, i < k + 1 → S (mu x (gs' i))) (hm : ∀ T, gp_sg N mu iv T → (∀ x, H x → T x) → T a → ∀ x, S x → T x) : gp_gen N mu iv gs' (k + 1) S ∧ gp_ext N mu iv H a S := by
  have hg : ∀ i, i < k + 1 → gs' i < N := fun i hi => by
    by_cases h : i = k
    · rw [h, hk]; exact ha
    · rw [he i (by omega)]; exact gp_gen_lt hH (by omega)
  have hG : gp_gen N mu iv gs' (k + 1) S := gp_close g h0 hl hg hc (fun T hT hi => hm T hT (hH.2.2 T hT (fun i h => by rw [← he i h]; exact hi i (by omega))) (by rw [← hk]; exact hi k (by omega)))
  refine ⟨hG, hG.1, ?_, ?_, hm⟩
  · exact hH.2.2 S hG.1 (fun i h => by rw [← he i h]; exact hG.2.1 i (by omega))
  · rw [← hk]; exact hG.2.1 k (by omega)
theorem gp_ext_id {H : Nat → Prop} {a : Nat} (hH : gp_sg N mu iv H) (ha : H a) : gp_ext N mu iv H a H := ⟨hH, fun _ h => h, ha, fun _ _ h _ => h⟩
theorem gp_ext_uq {H T U : Nat → Prop} {a : Nat} (h1 : gp_ext N mu iv H a T) (h2 : gp_ext N mu iv H a U) : ∀ x, T x ↔ U x := fun x => ⟨h1.2.2.2 U h2.1 h2.2.1 h2.2.2.1 x, h2.2.2.2 T h1.1 h1.2.1 h1.2.2.1 x⟩
theorem gp_clo_uq {G H T U : Nat → Prop} (h1 : gp_clo N mu iv G H T) (h2 : gp_clo N mu iv G H U) : ∀ x, T x ↔ U x := fun x => ⟨h1.2.2.2 U h2.1 h2.2.1 h2.2.2.1 x, h2.2.2.2 T h1.1 h1.2.1 h1.2.2.1 x⟩
theorem gp_der_uq {G T U : Nat → Prop} (h1 : gp_der N mu iv G T) (h2 : gp_der N mu iv G U) : ∀ x, T x ↔ U x := fun x => ⟨h1.2.2 U h2.1 h2.2.1 x, h2.2.2 T h1.1 h1.2.1 x⟩
/-- what is conjugated by the generators of G into T is so by all of G -/
theorem gp_inv (g : gp_ok N mu iv) {G T : Nat → Prop} {gT gG : Nat → Nat} {kT kG : Nat} (hT : gp_gen N mu iv gT kT T) (hG : gp_gen N mu iv gG kG G) (h : ∀ i j, i < kT → j < kG → T (ga_cj mu iv (gT i) (gG j))) : ∀ x a, T x → G a → T (ga_cj mu iv x a) := by
  have hl := hT.1.2.1
  have hA : ∀ j, j < kG → ∀ x, T x → T (ga_cj mu iv x (gG j)) := by
    intro j hj
    have ha : gG j < N := gp_gen_lt hG hj
    have hs : gp_sg N mu iv (fun x => x < N ∧ T (ga_cj mu iv x (gG j))) := by
      refine ⟨⟨gp_0 g, by rw [gp_k13 g ha]; exact hT.1.1⟩, fun a h => h.1, fun a b h1 h2 => ⟨gp_m g h1.1 h2.1, ?_⟩, fun a h1 => ⟨gp_i g h1.1, ?_⟩⟩
      · rw [gp_k2 g h1.1 h2.1 ha]; exact hT.1.2.2.1 _ _ h1.2 h2.2
      · rw [gp_k3 g h1.1 ha]; exact hT.1.2.2.2 _ h1.2
    exact fun x hx => (hT.2.2 _ hs (fun i hi => ⟨gp_gen_lt hT hi, h i j hi hj⟩) x hx).2
  have hB : gp_sg N mu iv (fun a => a < N ∧ ∀ x, T x → T (ga_cj mu iv x a)) := by
    refine ⟨⟨gp_0 g, fun x hx => by rw [gp_k11 g (hl x hx)]; exact hx⟩, fun a h => h.1, fun a b h1 h2 => ⟨gp_m g h1.1 h2.1, fun x hx => ?_⟩, fun a h1 => ⟨gp_i g h1.1, fun x hx => ?_⟩⟩
    · rw [gp_k1 g (hl x hx) h1.1 h2.1]; exact h2.2 _ (h1.2 x hx)
    · obtain ⟨y, hy, he⟩ := ma_back (N := N) (S := T) (f := fun z => ga_cj mu iv z a) hl (fun z hz => h1.2 z hz) (fun y z hy hz h => by
        have h : ga_cj mu iv y a = ga_cj mu iv z a := h
        rw [← gp_k4 g (hl y hy) h1.1, h, gp_k4 g (hl z hz) h1.1]) hx
      have he : ga_cj mu iv y a = x := he
      rw [← he, gp_k4 g (hl y hy) h1.1]
      exact hy
  exact fun x a hx ha => (hG.2.2 _ hB (fun j hj => ⟨gp_gen_lt hG hj, hA j hj⟩) a ha).2 x hx
/-- commutators of all elements, out of those with generators -/
theorem gp_com (g : gp_ok N mu iv) {G T : Nat → Prop} {gG : Nat → Nat} {kG : Nat} (hT : gp_sg N mu iv T) (hG : gp_gen N mu iv gG kG G) (hv : ∀ x a, T x → G a → T (ga_cj mu iv x a)) (h : ∀ i, i < kG → ∀ x, G x → T (ga_cm mu iv x (gG i))) : ∀ x y, G x → G y → T (ga_cm mu iv x y) := by
  have hl := hG.1.2.1
  have hY : gp_sg N mu iv (fun y => G y ∧ ∀ x, G x → T (ga_cm mu iv y x)) := by
    refine ⟨⟨hG.1.1, fun x hx => by rw [gp_k12 g (hl x hx)]; exact hT.1⟩, fun a h => hl a h.1, fun a b h1 h2 => ⟨hG.1.2.2.1 _ _ h1.1 h2.1, fun x hx => ?_⟩, fun a h1 => ⟨hG.1.2.2.2 _ h1.1, fun x hx => ?_⟩⟩
    · rw [gp_k5 g (hl a h1.1) (hl b h2.1) (hl x hx)]
      exact hT.2.2.1 _ _ (hv _ _ (h1.2 x hx) h2.1) (h2.2 x hx)
    · rw [gp_k6 g (hl a h1.1) (hl x hx)]
      exact hT.2.2.2 _ (hv _ _ (h1.2 x hx) (hG.1.2.2.2 _ h1.1))
  exact fun x y hx hy => (hG.2.2 _ hY (fun i hi => ⟨hG.2.1 i hi, fun x hx => by rw [← gp_k7 g (hl x hx) (gp_gen_lt hG hi)]; exact hT.2.2.2 _ (h i hi x hx)⟩) x hx).2 y hy
theorem gp_com0 (g : gp_ok N mu iv) {G T : Nat → Prop} {gG : Nat → Nat} {kG : Nat} (hT : gp_sg N mu iv T) (hG : gp_gen N mu iv gG kG G) (hv : ∀ x a, T x → G a → T (ga_cj mu iv x a)) (h : ∀ i j, i < kG → j < i → T (ga_cm mu iv (gG i) (gG j))) : ∀ i, i < kG → ∀ x, G x → T (ga_cm mu iv x (gG i)) := by
  intro i hi
  have hl := hG.1.2.1
  have hb := gp_gen_lt hG hi
  have hX : gp_sg N mu iv (fun x => G x ∧ T (ga_cm mu iv x (gG i))) := by
    refine ⟨⟨hG.1.1, by rw [gp_k12 g hb]; exact hT.1⟩, fun a h => hl a h.1, fun a b h1 h2 => ⟨hG.1.2.2.1 _ _ h1.1 h2.1, ?_⟩, fun a h1 => ⟨hG.1.2.2.2 _ h1.1, ?_⟩⟩
    · rw [gp_k5 g (hl a h1.1) (hl b h2.1) hb]
      exact hT.2.2.1 _ _ (hv _ _ h1.2 h2.1) h2.2
    · rw [gp_k6 g (hl a h1.1) hb]
      exact hT.2.2.2 _ (hv _ _ h1.2 (hG.1.2.2.2 _ h1.1))
  refine fun x hx => (hG.2.2 _ hX (fun j hj => ⟨hG.2.1 j hj, ?_⟩) x hx).2
  rcases Nat.lt_trichotomy j i with h1 | h1 | h1
  · rw [← gp_k7 g hb (gp_gen_lt hG hj)]
    exact hT.2.2.2 _ (h i j hi h1)
  · subst h1; rw [gp_k8 g hb]; exact hT.1
  · exact h j i hj h1
/-- the class's road to the derived group: commutators of generators, conjugated by generators -/
theorem gp_derC (g : gp_ok N mu iv) {G T : Nat → Prop} {gT gG : Nat → Nat} {kT kG : Nat} (hT : gp_gen N mu iv gT kT T) (hG : gp_gen N mu iv gG kG G) (h1 : ∀ i j, i < kG → j < i → T (ga_cm mu iv (gG i) (gG j))) (h2 : ∀ i j, i < kT → j < kG → T (ga_cj mu iv (gT i) (gG j))) (hm : ∀ U, gp_sg N mu iv U → (∀ x, U x → G x) → (∀ i j, i < kG → j < i → U (ga_cm mu iv (gG i) (gG j))) → (∀ x j, U x → j < kG → U (ga_cj mu iv x (gG j))) → ∀ x, T x → U x) : gp_der N mu iv G T := by
  have hv := gp_inv g hT hG h2
  refine ⟨hT.1, gp_com g hT.1 hG hv (gp_com0 g hT.1 hG hv h1), fun U hU hc x hx => ?_⟩
  have hl := hG.1.2.1
  have hV : gp_sg N mu iv (fun x => U x ∧ G x) := ⟨⟨hU.1, hG.1.1⟩, fun a h => hl a h.2, fun a b h1 h2 => ⟨hU.2.2.1 _ _ h1.1 h2.1, hG.1.2.2.1 _ _ h1.2 h2.2⟩, fun a h => ⟨hU.2.2.2 _ h.1, hG.1.2.2.2 _ h.2⟩⟩
  have hgc : ∀ a b, G a → G b → G (ga_cm mu iv a b) := fun a b ha hb => hG.1.2.2.1 _ _ (hG.1.2.2.1 _ _ (hG.1.2.2.2 _ ha) (hG.1.2.2.2 _ hb)) (hG.1.2.2.1 _ _ ha hb)
  refine (hm _ hV (fun x h => h.2) (fun i j hi hj => ⟨hc _ _ (hG.2.1 i hi) (hG.2.1 j (by omega)), hgc _ _ (hG.2.1 i hi) (hG.2.1 j (by omega))⟩) (fun y j hy hj => ?_) x hx).1
  have hy2 := hG.2.1 j hj
  rw [gp_k10 g (hl y hy.2) (hl _ hy2)]
  exact ⟨hU.2.2.1 _ _ hy.1 (hc _ _ hy.2 hy2), hG.1.2.2.1 _ _ hy.2 (hgc _ _ hy.2 hy2)⟩
/-- the reference's road: commutators of all elements with generators -/
theorem gp_derM (g : gp_ok N mu iv) {G T : Nat → Prop} {gG : Nat → Nat} {kG : Nat} (hT : gp_sg N mu iv T) (hG : gp_gen N mu iv gG kG G) (h1 : ∀ x i, G x → i < kG → T (ga_cm mu iv x (gG i))) (hm : ∀ U, gp_sg N mu iv U → (∀ x i, G x → i < kG → U (ga_cm mu iv x (gG i))) → ∀ x, T x → U x) : gp_der N mu iv G T := by
  have hl := hG.1.2.1
  have hlT := hT.2.1
  have hv : ∀ x a, T x → G a → T (ga_cj mu iv x a) := by
    intro x a hx ha
    have haN := hl a ha
    have hs : gp_sg N mu iv (fun x => x < N ∧ T (ga_cj mu iv x a)) := by
      refine ⟨⟨gp_0 g, by rw [gp_k13 g haN]; exact hT.1⟩, fun a h => h.1, fun b c h1 h2 => ⟨gp_m g h1.1 h2.1, ?_⟩, fun b h1 => ⟨gp_i g h1.1, ?_⟩⟩
      · rw [gp_k2 g h1.1 h2.1 haN]; exact hT.2.2.1 _ _ h1.2 h2.2
      · rw [gp_k3 g h1.1 haN]; exact hT.2.2.2 _ h1.2
    refine (hm _ hs (fun y i hy hi => ⟨gp_cml g (hl y hy) (gp_gen_lt hG hi), ?_⟩) x hx).2
    rw [gp_k9 g (hl y hy) (gp_gen_lt hG hi) haN]
    exact hT.2.2.1 _ _ (h1 _ i (hG.1.2.2.1 _ _ hy ha) hi) (hT.2.2.2 _ (h1 a i ha hi))
  exact ⟨hT, gp_com g hT hG hv (fun i hi x hx => h1 x i hx hi), fun U hU hc => hm U hU (fun x i hx hi => hc x _ hx (hG.2.1 i hi))⟩
/-- the class's road to the closure -/
theorem gp_cloC (g : gp_ok N mu iv) {G H T : Nat → Prop} {gT gG : Nat → Nat} {kT kG : Nat} (hT : gp_gen N mu iv gT kT T) (hG : gp_gen N mu iv gG kG G) (h1 : ∀ x, H x → T x) (h2 : ∀ i j, i < kT → j < kG → T (ga_cj mu iv (gT i) (gG j))) (hm : ∀ U, gp_sg N mu iv U → (∀ x, H x → U x) → (∀ x j, U x → j < kG → U (ga_cj mu iv x (gG j))) → ∀ x, T x → U x) : gp_clo N mu iv G H T :=
  ⟨hT.1, h1, gp_inv g hT hG h2, fun U hU hH hv => hm U hU hH (fun x j hx hj => hv x _ hx (hG.2.1 j hj))⟩
/-- the reference's road to the closure: conjugates of generators by all elements -/
theorem gp_cloM (g : gp_ok N mu iv) {G H T : Nat → Prop} {gH : Nat → Nat} {kH : Nat} (hT : gp_sg N mu iv T) (hG : gp_sg N mu iv G) (hH : gp_gen N mu iv gH kH H) (h1 : ∀ x i, G x → i < kH → T (ga_cj mu iv (gH i) x)) (hm : ∀ U, gp_sg N mu iv U → (∀ x i, G x → i < kH → U (ga_cj mu iv (gH i) x)) → ∀ x, T x → U x) : gp_clo N mu iv G H T := by
  have hl := hG.2.1
  refine ⟨hT, hH.2.2 T hT (fun i hi => ?_), fun x a hx ha => ?_, fun U hU hHU hv => hm U hU (fun x i hx hi => hv _ x (hHU _ (hH.2.1 i hi)) hx)⟩
  · have h2 := h1 0 i hG.1 hi
    rwa [gp_k11 g (gp_gen_lt hH hi)] at h2
  · have haN := hl a ha
    have hs : gp_sg N mu iv (fun x => x < N ∧ T (ga_cj mu iv x a)) := by
      refine ⟨⟨gp_0 g, by rw [gp_k13 g haN]; exact hT.1⟩, fun a h => h.1, fun b c h1 h2 => ⟨gp_m g h1.1 h2.1, ?_⟩, fun b h1 => ⟨gp_i g h1.1, ?_⟩⟩
      · rw [gp_k2 g h1.1 h2.1 haN]; exact hT.2.2.1 _ _ h1.2 h2.2
      · rw [gp_k3 g h1.1 haN]; exact hT.2.2.2 _ h1.2
    refine (hm _ hs (fun y i hy hi => ⟨gp_cjl g (gp_gen_lt hH hi) (hl y hy), ?_⟩) x hx).2
    rw [← gp_k1 g (gp_gen_lt hH hi) (hl y hy) haN]
    exact h1 _ i (hG.2.2.1 _ _ hy ha) hi
/-- a subgroup that lacks an element of a larger one is at most half as large -/
theorem gp_half (g : gp_ok N mu iv) {S T : Nat → Bool} {a : Nat} (hS : gp_sg N mu iv (fun x => S x = true)) (hT : gp_sg N mu iv (fun x => T x = true)) (h1 : ∀ x, S x = true → T x = true) (ha : T a = true) (hn : S a = false) : 2 * ma_cn S N ≤ ma_cn T N := by
  have haN : a < N := hT.2.1 a ha
  refine ma_cn_two (f := fun h => mu h a) (fun h hh hs => ⟨gp_m g hh haN, ?_⟩) (fun h k hh hk _ _ he => gp_rc g hh hk haN he) h1 (fun h _ hs => hT.2.2.1 h a (h1 h hs) ha)
  show S (mu h a) = false
  cases hc : S (mu h a) with
  | false => rfl
  | true =>
    have h2 := hS.2.2.1 (iv h) (mu h a) (hS.2.2.2 h hs) hc
    have h3 : mu (iv h) (mu h a) = a := by rw [← gp_as g (gp_i g hh) hh haN, gp_il g hh, gp_ol g haN]
    rw [h3] at h2
    have h2 : S a = true := h2
    rw [hn] at h2
    exact absurd h2 (by decide)
end
