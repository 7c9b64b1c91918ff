/-- cells of the class's store are as they were, but for new ones -/
def zF (S : pmS) (I : pmI) (J : pmJ) (P : pmP) (S' : pmS) (I' : pmI) (J' : pmJ) (P' : pmP) : Prop := S.1 ≤ S'.1 ∧ (∀ a, a < S.1 → S'.2 a = S.2 a) ∧ ∀ a, (15 ≤ a ∧ a ≤ 33) ∨ 95 ≤ a → a < S.1 → I' a = I a ∧ J' a = J a ∧ P' a = P a
theorem zF.refl {S : pmS} {I : pmI} {J : pmJ} {P : pmP} : zF S I J P S I J P := ⟨Nat.le_refl _, fun _ _ => rfl, fun _ _ _ => ⟨rfl, rfl, rfl⟩⟩
theorem zF.trans {S S1 S2 : pmS} {I I1 I2 : pmI} {J J1 J2 : pmJ} {P P1 P2 : pmP} (h : zF S I J P S1 I1 J1 P1) (g : zF S1 I1 J1 P1 S2 I2 J2 P2) : zF S I J P S2 I2 J2 P2 := by
  refine ⟨Nat.le_trans h.1 g.1, fun a ha => (g.2.1 a (Nat.lt_of_lt_of_le ha h.1)).trans (h.2.1 a ha), fun a hx ha => ?_⟩
  have e1 := h.2.2 a hx ha
  have e2 := g.2.2 a hx (Nat.lt_of_lt_of_le ha h.1)
  exact ⟨e2.1.trans e1.1, e2.2.1.trans e1.2.1, e2.2.2.trans e1.2.2⟩
theorem nF.zF {S S' : pmS} {I I' : pmI} {J J' : pmJ} {P P' : pmP} (h : nF S I J P S' I' J' P') : zF S I J P S' I' J' P' := ⟨h.1, h.2.1, fun a _ ha => h.2.2 a ha⟩
/-- cells of the other side, and of the law, are as they were -/
def oF (I : pmI) (J : pmJ) (P : pmP) (I' : pmI) (J' : pmJ) (P' : pmP) : Prop := ∀ a, a < 2 ∨ (47 ≤ a ∧ a ≤ 95) → I' a = I a ∧ J' a = J a ∧ P' a = P a
theorem oF.trans {I I1 I2 : pmI} {J J1 J2 : pmJ} {P P1 P2 : pmP} (h : oF I J P I1 J1 P1) (g : oF I1 J1 P1 I2 J2 P2) : oF I J P I2 J2 P2 := fun a ha => by
  have e1 := h a ha
  have e2 := g a ha
  exact ⟨e2.1.trans e1.1, e2.2.1.trans e1.2.1, e2.2.2.trans e1.2.2⟩
theorem oF.refl {I : pmI} {J : pmJ} {P : pmP} : oF I J P I J P := fun _ _ => ⟨rfl, rfl, rfl⟩
theorem nF.oF {S S' : pmS} {I I' : pmI} {J J' : pmJ} {P P' : pmP} (h : nF S I J P S' I' J' P') (h96 : 96 ≤ S.1) : oF I J P I' J' P' := fun a ha => h.2.2 a (by omega)
theorem kF.oF {I I' : pmI} {J J' : pmJ} {P P' : pmP} (h : kF I J P I' J' P') : oF I J P I' J' P' := fun a ha => h a (by omega)
theorem mF.oF {S S' : pmS} {I I' : pmI} {J J' : pmJ} {P P' : pmP} {b : Nat} (h : mF S I J P b S' I' J' P') (h96 : 96 ≤ S.1) (hb : b = 22 ∨ 96 ≤ b) : oF I J P I' J' P' := fun a ha => h.2.2 a ⟨by omega, by omega, by omega, by omega⟩ (by omega)
theorem cA.zF {S S' : pmS} {I I' : pmI} {J J' : pmJ} {P P' : pmP} {A : aS} {Z : Nat → Nat} {b : Nat} (h : cA S I J P A Z b) (h95 : 95 ≤ S.1) (hF : zF S I J P S' I' J' P') : cA S' I' J' P' A Z b := by
  have e : ∀ a, 15 ≤ a → a ≤ 33 → I' a = I a ∧ J' a = J a ∧ P' a = P a := fun a h1 h2 => hF.2.2 a (Or.inl ⟨h1, h2⟩) (by omega)
  refine ⟨by rw [(e 16 (by decide) (by decide)).1]; exact h.n, fun j v hj => ?_, by rw [(e 15 (by decide) (by decide)).1]; exact h.r, fun j v hj => ?_, by rw [(e 15 (by decide) (by decide)).1]; exact h.k, fun s hs => ?_⟩
  · rw [(e 17 (by decide) (by decide)).2.1, (e 18 (by decide) (by decide)).1, (e 19 (by decide) (by decide)).1, (e 20 (by decide) (by decide)).1, (e 28 (by decide) (by decide)).1, (e 29 (by decide) (by decide)).2.1]
    exact h.2.1 j v hj
  · rw [(e 31 (by decide) (by decide)).1, (e 32 (by decide) (by decide)).2.1]
    exact h.rs j v hj
  · obtain ⟨g1, g2, g3⟩ := h.sn hs
    have hz := g2.1
    exact ⟨by rw [(e 33 (by decide) (by decide)).2.2]; exact g1, g2.mv hF.1 hF.2.1 (fun a h1 h2 => hF.2.2 a (Or.inr (by omega)) (by omega)), g3⟩
theorem tC.zF {S S' : pmS} {I I' : pmI} {J J' : pmJ} {P P' : pmP} {A : aS} {t : List tH} {b m : Nat} (h : tC S I J P A t b m) (h95 : 95 ≤ S.1) (hF : zF S I J P S' I' J' P') : tC S' I' J' P' A t b m := by
  have hb := h.bd
  have e21 := hF.2.2 21 (Or.inl (by decide)) (by omega)
  have e : ∀ k, k < 5 → I' (b + k) = I (b + k) ∧ J' (b + k) = J (b + k) ∧ P' (b + k) = P (b + k) := fun k hk => hF.2.2 (b + k) (by omega) (by omega)
  have s : ∀ k, k < 5 → S'.2 (b + k) = S.2 (b + k) := fun k hk => hF.2.1 (b + k) (by omega)
  have e0 := e 0 (by decide)
  have s0 := s 0 (by decide)
  rw [Nat.add_zero] at e0 s0
  refine ⟨⟨hb.1, by have := hF.1; omega⟩, by rw [e21.2.2]; exact h.2.1, by rw [s0, s 1 (by decide), s 2 (by decide), s 3 (by decide), s 4 (by decide)]; exact h.2.2.1, h.m', h.l, by rw [e21.1]; exact h.n, fun j u vs hj => ?_⟩
  rw [e0.1, (e 1 (by decide)).1, (e 2 (by decide)).1, (e 3 (by decide)).1, (e 4 (by decide)).2.1]
  exact h.at hj
theorem cA.nU {S : pmS} {I I' : pmI} {J J' : pmJ} {P : pmP} {A : aS} {Z : Nat → Nat} {b : Nat} (h : cA S I J P A Z b) (hO : aO A) {ns' : List Int64} (hp : A.ns <+: ns') (hnd : ns'.Nodup) (hu : nUc A.ns I J I' J' ns') : cA S I' J' P (A.nm ns') Z b := by
  have e : ∀ a, a < 16 ∨ 20 < a → I' a = I a ∧ J' a = J a := hu.1
  refine ⟨hu.2.2.2.1, fun j v hj => ?_, by rw [(e 15 (by decide)).1]; exact h.r, fun j v hj => ?_, by rw [(e 15 (by decide)).1]; exact h.k, fun s hs => ?_⟩
  · have hj : ns'[j]? = some v := hj
    rw [(e 28 (by decide)).1, (e 29 (by decide)).2]
    rcases Nat.lt_or_ge j A.ns.length with g | g
    · have hj1 : A.ns[j]? = some v := by
        obtain ⟨r, rfl⟩ := hp
        rw [List.getElem?_append_left g] at hj
        exact hj
      obtain ⟨q1, q2, q3, q4⟩ := hu.2.2.1 j g
      rw [q1, q2, q3, q4]
      exact h.2.1 j v hj1
    · obtain ⟨q1, q2, q3, q4⟩ := hu.2.2.2.2 j v g hj
      have hv : v ∉ A.ns := fun q => by
        have g1 := nd_ix hnd hj
        rw [pre_ix hp q] at g1
        have := (ns_at q).2
        omega
      obtain ⟨z1, z2⟩ := hO.2.1 v hv
      have z3 := hO.2.2.1 v z1
      refine ⟨q1, ?_, ?_, ?_, fun q => ?_⟩
      · rw [q2]; show nI 0 = nI (A.fm v); rw [z1]
      · rw [q3]; show -5 = eN (A.dc v); rw [z3]; rfl
      · rw [q4]; show nI 0 = nI (A.ed v); rw [z2]
      · have q : A.fm v = 1 := q
        omega
  · rw [(e 31 (by decide)).1, (e 32 (by decide)).2]
    exact h.rs j v hj
  · have hs : s < A.sn.length := hs
    obtain ⟨g1, g2, g3⟩ := h.sn hs
    have hz := g2.1
    exact ⟨g1, (g2.mv (Nat.le_refl _) (fun _ _ => rfl) (fun a h1 h2 => ⟨(e a (by omega)).1, (e a (by omega)).2, rfl⟩)).nm hO hs hp, g3⟩
theorem tC.nU {S : pmS} {I I' : pmI} {J J' : pmJ} {P : pmP} {A : aS} {t : List tH} {b m : Nat} (h : tC S I J P A t b m) (hO : aO A) (ht : tO A t) {ns' : List Int64} (hp : A.ns <+: ns') (hu : nUc A.ns I J I' J' ns') : tC S I' J' P (A.nm ns') t b m := by
  have hb := h.bd
  have e : ∀ a, 21 ≤ a → I' a = I a ∧ J' a = J a := fun a ha => hu.1 a (by omega)
  refine ⟨hb, h.2.1, h.2.2.1, h.m', h.l, by rw [(e 21 (by decide)).1]; exact h.n, fun j s vs hj => ?_⟩
  have g := h.at hj
  obtain ⟨t1, t2, -, -⟩ := ht j s vs hj
  have hd := (hO.2.2.2.2.1 s t1).2.2.1 (by omega)
  rw [(e b (by omega)).1, (e (b + 1) (by omega)).1, (e (b + 2) (by omega)).1, (e (b + 3) (by omega)).1, (e (b + 4) (by omega)).2]
  show I b j = nI (ns'.idxOf (A.at s).dec) ∧ _
  rw [pre_ix hp hd]
  exact g
/-- the class's Code holds this code, numbered -/
theorem cp_dn {pa : List Int64} {Nm : Int64 → Prop} : ∀ T : eX, wt pa Nm T → ∀ x ∈ cp id T, dN x.1 → Nm x.2.2
  | .leaf, hT, x, hx, hd => hT.elim
  | .inner k q u a .leaf, hT, x, hx, hd => by
    rcases hT with rfl | rfl | ⟨rfl, h2, h3⟩ | ⟨rfl, h2, h3⟩ | ⟨rfl, h2⟩ | ⟨rfl, h2, h3⟩
    · have hx : x ∈ [((2, 0, q.2) : dE)] := hx
      cases List.mem_singleton.mp hx
      unfold dN at hd
      exact absurd hd (by show ¬ ((2 : Nat) = 5 ∨ (2 : Nat) = 6 ∨ (2 : Nat) = 8 ∨ (2 : Nat) = 9); decide)
    · have hx : x ∈ [((3, q.2.toInt32, 0) : dE)] := hx
      cases List.mem_singleton.mp hx
      unfold dN at hd
      exact absurd hd (by show ¬ ((3 : Nat) = 5 ∨ (3 : Nat) = 6 ∨ (3 : Nat) = 8 ∨ (3 : Nat) = 9); decide)
    · have hx : x ∈ [((4, nI q.1, 0) : dE)] := hx
      cases List.mem_singleton.mp hx
      unfold dN at hd
      exact absurd hd (by show ¬ ((4 : Nat) = 5 ∨ (4 : Nat) = 6 ∨ (4 : Nat) = 8 ∨ (4 : Nat) = 9); decide)
    · have hx : x ∈ [((5, 0, q.2) : dE)] := hx
      cases List.mem_singleton.mp hx
      exact h3
    · have hx : x ∈ (((1, 0, 0) : dE) :: (cp id a ++ [((10, 0, 0) : dE)])) := hx
      rcases List.mem_cons.mp hx with rfl | hx
      · exact absurd hd (by show ¬ ((1 : Nat) = 5 ∨ (1 : Nat) = 6 ∨ (1 : Nat) = 8 ∨ (1 : Nat) = 9); decide)
      · rcases List.mem_append.mp hx with hx | hx
        · exact cp_dn a h2 x hx hd
        · cases List.mem_singleton.mp hx
          exact absurd hd (by show ¬ ((10 : Nat) = 5 ∨ (10 : Nat) = 6 ∨ (10 : Nat) = 8 ∨ (10 : Nat) = 9); decide)
    · have hx : x ∈ (((1, 0, 0) : dE) :: (cp id a ++ [((9, 0, q.2) : dE)])) := hx
      rcases List.mem_cons.mp hx with rfl | hx
      · exact absurd hd (by show ¬ ((1 : Nat) = 5 ∨ (1 : Nat) = 6 ∨ (1 : Nat) = 8 ∨ (1 : Nat) = 9); decide)
      · rcases List.mem_append.mp hx with hx | hx
        · exact cp_dn a h3 x hx hd
        · cases List.mem_singleton.mp hx
          exact h2
  | .inner k q u a (.inner k2 q2 u2 b c), hT, x, hx, hd => by
    rcases hT with ⟨rfl, h2, h3, h4, h5, h6⟩ | ⟨rfl, h2, h3, h4, rfl⟩ | ⟨rfl, h2, h3, h4⟩
    · have hx : x ∈ (((6, nI q.1, q.2) : dE) :: (cp id a ++ (cp id b ++ (cp id c ++ [((8, nI q.1, q.2) : dE)])))) := hx
      rcases List.mem_cons.mp hx with rfl | hx
      · exact h2
      rcases List.mem_append.mp hx with hx | hx
      · rcases h4 with ⟨_, rfl⟩ | ⟨_, h4⟩
        · cases hx
        · exact cp_dn a h4 x hx hd
      rcases List.mem_append.mp hx with hx | hx
      · rcases h5 with ⟨_, rfl⟩ | ⟨_, h5⟩
        · cases hx
        · exact cp_dn b h5 x hx hd
      rcases List.mem_append.mp hx with hx | hx
      · rcases h6 with ⟨_, rfl⟩ | ⟨_, h6⟩
        · cases hx
        · exact cp_dn c h6 x hx hd
      cases List.mem_singleton.mp hx
      exact h2
    · have hx : x ∈ (((1, 0, 0) : dE) :: (cp id a ++ (cp id b ++ [((q.1, 0, 0) : dE)]))) := hx
      rcases List.mem_cons.mp hx with rfl | hx
      · exact absurd hd (by show ¬ ((1 : Nat) = 5 ∨ (1 : Nat) = 6 ∨ (1 : Nat) = 8 ∨ (1 : Nat) = 9); decide)
      rcases List.mem_append.mp hx with hx | hx
      · exact cp_dn a h3 x hx hd
      rcases List.mem_append.mp hx with hx | hx
      · exact cp_dn b h4 x hx hd
      cases List.mem_singleton.mp hx
      have hd : q.1 = 5 ∨ q.1 = 6 ∨ q.1 = 8 ∨ q.1 = 9 := hd
      revert h2
      rcases hd with e | e | e | e <;> rw [e] <;> exact fun h2 => absurd h2 (by decide)
    · have hx : x ∈ (((1, 0, 0) : dE) :: (cp id a ++ ((11, nI ((cp id b).length + 1), 0) : dE) :: (cp id b ++ ((12, nI (cp id c).length, 0) : dE) :: cp id c))) := hx
      rcases List.mem_cons.mp hx with rfl | hx
      · exact absurd hd (by show ¬ ((1 : Nat) = 5 ∨ (1 : Nat) = 6 ∨ (1 : Nat) = 8 ∨ (1 : Nat) = 9); decide)
      rcases List.mem_append.mp hx with hx | hx
      · exact cp_dn a h2 x hx hd
      rcases List.mem_cons.mp hx with rfl | hx
      · exact absurd hd (by show ¬ ((11 : Nat) = 5 ∨ (11 : Nat) = 6 ∨ (11 : Nat) = 8 ∨ (11 : Nat) = 9); decide)
      rcases List.mem_append.mp hx with hx | hx
      · exact cp_dn b h3 x hx hd
      rcases List.mem_cons.mp hx with rfl | hx
      · exact absurd hd (by show ¬ ((12 : Nat) = 5 ∨ (12 : Nat) = 6 ∨ (12 : Nat) = 8 ∨ (12 : Nat) = 9); decide)
      exact cp_dn c h4 x hx hd
theorem kC_num {S : pmS} {I I' : pmI} {J J1 J' : pmJ} {P : pmP} (hG : sh_St S) (hP : gr_St P) {L : List dD} (hL : cd I J L) (hl : L.length ≤ 121) {ns : List Int64} (hk : kU ns L L.length J J1) (hn : ∀ x ∈ L, dN x.1 → x.2.2.2 ∈ ns) (h9 : I' 9 4 = I 9 4) (h10 : I' 10 = I 10) (h12 : I' 12 = I 12) (h13 : J' 13 = J1 13) : kC S I' J' P 9 121 ((L.map dPl).map (nuD (hN ns))) := by
  have h96 := hG.1
  refine ⟨⟨by decide, by omega⟩, sh_tg hG 7 rfl, sh_sh hG 8 rfl, sh_sh hG 9 rfl, sh_sh hG 10 rfl, sh_sh hG 11 rfl, (gr_at hP 11 rfl), (gr_at hP 12 rfl), (gr_at hP 13 rfl), (gr_at hP 14 rfl), ⟨by rw [List.length_map, List.length_map]; exact hl, by decide⟩, by rw [h9, List.length_map, List.length_map]; exact hL.1, fun j y hj => ?_⟩
  rw [List.getElem?_map, List.getElem?_map] at hj
  obtain ⟨z, hz, hzy⟩ := Option.map_eq_some_iff.mp hj
  obtain ⟨x, hx, hxz⟩ := Option.map_eq_some_iff.mp hz
  subst hxz
  subst hzy
  have hjl := (List.getElem?_eq_some_iff.mp hx).1
  obtain ⟨g1, -, g3⟩ := hL.2 j x hx
  obtain ⟨q1, q2⟩ := hk.2.2 j x hjl hx
  show I' 10 j = _ ∧ (_ → I' 12 j = _ ∧ J' 13 j = _)
  rw [h10, h12, h13]
  by_cases hd : dN x.1
  · have e : nuD (hN ns) (dPl x) = (x.1, x.2.2.1, hN ns x.2.2.2) := if_pos hd
    rw [e]
    exact ⟨g1, fun hne => ⟨(g3 hne).1, q1 hd (hn x (List.mem_of_getElem? hx) hd)⟩⟩
  · have e : nuD (hN ns) (dPl x) = dPl x := if_neg hd
    rw [e, q2 hd]
    exact ⟨g1, fun hne => g3 hne⟩
