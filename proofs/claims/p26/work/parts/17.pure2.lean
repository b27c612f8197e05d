theorem n_lt {n : Nat} (N : Nat) (hn : n < 2 ^ 31) (hN : N < 2 ^ 31) : nI n < nI N ↔ n < N := nI_ltI hn hN
theorem hashS_ne {S : hS} {a b x : Nat} {name port salt : Int32} (h : b ≠ a ∨ x < 16 ∨ 20 ≤ x) : sF (hashS S a name port salt) x b = sF S x b := by
  unfold hashS
  rw [sF_uF, if_neg (by omega), sF_uF, if_neg (by omega), sF_uF, if_neg (by omega), sF_uF, if_neg (by omega)]
theorem sB_hashS (S : hS) (a : Nat) (name port salt : Int32) : sB (hashS S a name port salt) = sB S := by
  unfold hashS
  rw [sB_uF, sB_uF, sB_uF, sB_uF]
theorem aHash_ne {M : Nat → Nat → Int32} {n i : Nat} {name port salt : Int32} (h : i ≠ n) (f : Nat) : aHash M n name port salt f i = M f i := by
  unfold aHash
  rw [u2_ne2 h, u2_ne2 h, u2_ne2 h]
theorem aHash_ge {M : Nat → Nat → Int32} {n i f : Nat} {name port salt : Int32} (h : f < 9 ∨ 12 ≤ f) : aHash M n name port salt f i = M f i := by
  unfold aHash
  rw [u2_ne1 (by omega), u2_ne1 (by omega), u2_ne1 (by omega)]
theorem lnR_hash {S : hS} {a pa i k : Nat} {pt : Nat → Nat} {M : Nat → Nat → Int32} {name port salt : Int32} (h : lnR S a pa pt M i k) (hO : ∀ b, isO S b 2 → isO (hashS S a name port salt) b 2) (hs : ¬ salt = -1) : lnR (hashS S a name port salt) a pa pt (aHash M i name port salt) i k := by
  obtain ⟨⟨q1, q2, q3, q4⟩, ⟨r1, r2, r3⟩, u, v⟩ := h
  refine ⟨⟨?_, ?_, ?_, ?_⟩, ⟨?_, ?_, r3⟩, Or.inl ?_, fun j hj => ?_⟩
  · rw [hashS_ne (by omega), aHash_ge (by omega)]; exact q1
  · rw [hashS_ne (by omega), aHash_ge (by omega)]; exact q2
  · rw [hashS_ne (by omega), aHash_ge (by omega)]; exact q3
  · rw [hashS_ne (by omega), aHash_ge (by omega)]; exact q4
  · rw [hashS_ne (by omega)]; exact r1
  · rw [aHash_ge (by omega)]; exact r2
  · unfold hashS aHash
    simp only [tF_uF, u2_at']
    simp [hs]
  · obtain ⟨v1, v2, v3, v4, v5, v6⟩ := v j hj
    rw [sB_hashS, hashS_ne (by omega), hashS_ne (by omega), hashS_ne (by omega), hashS_ne (by omega), aHash_ge (by omega), aHash_ge (by omega), aHash_ge (by omega), aHash_ge (by omega)]
    exact ⟨v1, hO _ v2, v3, v4, v5, v6⟩
theorem cC_hash {S : hS} {h bk ca sa : Nat} {ad pa : Nat → Nat} {sc : Nat → Int32} {M : Nat → Nat → Int32} {n nc ns i : Nat} {name port salt : Int32} (hG : cG S h bk ca sa ad pa) (hC : cC S h ca sa ad pa sc M n nc ns) (hi : i < n) (hs : ¬ salt = -1) :
    cC (hashS S (ad i) name port salt) h ca sa ad pa sc (aHash M i name port salt) n nc ns := by
  have hcl := clF_hashS S (ad i) name port salt
  have hn := hC.1.2.2
  refine ⟨⟨by rw [hashS_ne (by omega)]; exact hC.1.1, hC.1.2.1, hn⟩, cL_to i hC.2.1 (fun j h1 h2 => h1) (fun j h1 h2 x h3 h4 => hashS_ne (Or.inl (fun z => h2 (hG.2.2.2.2.2.1 j i (by omega) (by omega) z)))) (fun a ha => ⟨hcl.1 a 2 ha, fun x h3 h4 => hashS_ne (by omega)⟩) (fun _ _ _ _ _ => by rw [sB_hashS]) (fun j hj => ⟨fun f _ _ => aHash_ne hj f, fun f k hf _ _ => aHash_ge (by omega)⟩) (fun _ => ?_),
    cX_to hC.2.2 hcl.1 (fun x a h3 _ => hashS_ne (by omega)) (fun x h3 h4 => hashS_ne (by omega)) (fun _ _ => by rw [sB_hashS]) (fun _ _ => by rw [sB_hashS]) (fun x hx => rfl) (fun f i hf => aHash_ge (by omega))⟩
  obtain ⟨pt, k, hL⟩ := hC.2.1 i hi
  exact ⟨pt, k, lnR_hash hL (fun b hb => hcl.1 b 2 hb) hs⟩
/-! a pattern more -/
theorem patS_ne {S : hS} {a pa q k b x : Nat} {name places port den : Int32} (hb : b ≠ q) (h : b ≠ a ∨ x ≠ 15) : sF (patS S a pa q k name places port den) x b = sF S x b := by
  unfold patS patT patI
  rw [sF_uF, if_neg (by omega), sF_uB, sF_uF, if_neg (by omega), sF_uF, if_neg (by omega), sF_uF, if_neg (by omega), sF_uF, if_neg (by omega), sF_nO, if_neg hb]
theorem patT_inc {S : hS} {a pa q k : Nat} {name places port den : Int32} (hO : isO S a 1) (hq : q ∉ sL S) (hk : sF S 15 a = nI k) : sF (patT S pa q k name places port den) 15 a + 1 = nI (k + 1) := by
  have hb := ne_of_mem hO.1 hq
  unfold patT patI
  rw [sF_uB, sF_uF, if_neg (by omega), sF_uF, if_neg (by omega), sF_uF, if_neg (by omega), sF_uF, if_neg (by omega), sF_nO, if_neg hb, hk, nI_1]
theorem sB_patS {S : hS} {a pa q k : Nat} {name places port den : Int32} : sB (patS S a pa q k name places port den) = u2 (sB S) pa k (some q) := by
  unfold patS patT patI
  rw [sB_uF]
  show u2 _ _ _ _ = _
  rw [sB_uF, sB_uF, sB_uF, sB_uF, sB_nO]
theorem patS_q {S : hS} {a pa q k : Nat} {name places port den : Int32} : sF (patS S a pa q k name places port den) 20 q = name ∧ sF (patS S a pa q k name places port den) 21 q = places ∧ sF (patS S a pa q k name places port den) 22 q = port ∧ sF (patS S a pa q k name places port den) 23 q = den := by
  unfold patS patT patI
  simp only [tF_uF, tF_uB]
  simp
theorem aPat_lt {M : Nat → Nat → Int32} {i k f j : Nat} {name places port den : Int32} (h : f < 12 ∨ 17 ≤ f) : aPat M i k name places port den f j = M f j := by
  unfold aPat
  rw [u2_ne1 (by omega), u2_ne1 (by omega), u2_ne1 (by omega), u2_ne1 (by omega), u2_ne1 (by omega)]
theorem aPat_12 {M : Nat → Nat → Int32} {i k j : Nat} {name places port den : Int32} : aPat M i k name places port den 12 j = if j = i then nI (k + 1) else M 12 j := by
  unfold aPat
  rw [u2_at', u2_ne1 (by omega), u2_ne1 (by omega), u2_ne1 (by omega), u2_ne1 (by omega)]
  simp
theorem aPat_p {M : Nat → Nat → Int32} {i k f j : Nat} {name places port den : Int32} (hf : 13 ≤ f) (h : j ≠ 4 * i + k) : aPat M i k name places port den f j = M f j := by
  unfold aPat
  rw [u2_ne1 (by omega), u2_ne2 h, u2_ne2 h, u2_ne2 h, u2_ne2 h]
theorem aPat_q {M : Nat → Nat → Int32} {i k : Nat} {name places port den : Int32} : aPat M i k name places port den 13 (4 * i + k) = name ∧ aPat M i k name places port den 14 (4 * i + k) = places ∧ aPat M i k name places port den 15 (4 * i + k) = port ∧ aPat M i k name places port den 16 (4 * i + k) = den := by
  unfold aPat
  simp only [u2_at']
  simp
theorem sK_of {S S' : hS} {b t : Nat} (h : isO S' b t) : sK S' b = t := h.2
theorem cG_patS {S : hS} {h bk ca sa a q : Nat} {ad pa : Nat → Nat} (k : Nat) (name places port den : Int32) (hG : cG S h bk ca sa ad pa) (hq : q ∉ sL S) {pz : Nat} (hp : isO S pz 10) : cG (patS S a pz q k name places port den) h bk ca sa ad pa := by
  unfold patS patT patI
  refine cG_uF _ _ _ (cG_uB _ _ (cG_uF _ _ _ (cG_uF _ _ _ (cG_uF _ _ _ (cG_uF _ _ _ (cG_nO hG hq))))) ?_)
  rw [sK_uF, sK_uF, sK_uF, sK_uF, (isO_nO' hp hq).2]
  decide
theorem cC_pat {S : hS} {h bk ca sa q : Nat} {ad pa : Nat → Nat} {sc : Nat → Int32} {M : Nat → Nat → Int32} {n nc ns i k : Nat} {name places port den : Int32} (hG : cG S h bk ca sa ad pa) (hC : cC S h ca sa ad pa sc M n nc ns) (hi : i < n) (hq : q ∉ sL S) (hk : sF S 15 (ad i) = nI k) (hk4 : k < 4) :
    cC (patS S (ad i) (pa (ad i)) q k name places port den) h ca sa ad pa sc (aPat M i k name places port den) n nc ns := by
  have hcl := clF_patS (S := S) (ad i) (pa (ad i)) k name places port den hq
  have hn := hC.1.2.2
  have hi40 : i < 40 := by omega
  have hne : ∀ {b t}, isO S b t → b ≠ q := fun hb => ne_of_mem hb.1 hq
  have hlin : ∀ j, j < 40 → isO S (ad j) 1 := fun j hj => (hG.2.2.2.2.1 j hj).2.1
  have hpin : ∀ j, j < 40 → isO S (pa (ad j)) 10 := fun j hj => (hG.2.2.2.2.1 j hj).2.2.2.1
  have hh := hne hG.1
  refine ⟨⟨by rw [patS_ne hh (by omega)]; exact hC.1.1, hC.1.2.1, hn⟩, cL_to i hC.2.1 (fun j h1 h2 => h1) (fun j h1 h2 x h3 h4 => patS_ne (hne (hlin j (by omega))) (Or.inl (fun z => h2 (hG.2.2.2.2.2.1 j i (by omega) (by omega) z)))) (fun a ha => ⟨hcl.1 a 2 ha, fun x h3 h4 => patS_ne (hne ha) (by omega)⟩) (fun j h1 h2 m hm => ?_) (fun j hj => ⟨fun f h1 h2 => ?_, fun f m hf _ hm => aPat_p hf (by omega)⟩) (fun _ => ?_),
    cX_to hC.2.2 hcl.1 (fun x a h3 ha => patS_ne (ne_of_mem ha hq) (by omega)) (fun x h3 h4 => patS_ne hh (by omega)) (fun j _ => ?_) (fun j _ => ?_) (fun x hx => rfl) (fun f i hf => aPat_lt (by omega))⟩
  · rw [sB_patS, u2_off]
    exact fun z => h2 (hG.2.2.2.2.2.2 j i (by omega) (by omega) z)
  · by_cases hf12 : f = 12
    · subst hf12
      rw [aPat_12, if_neg hj]
    · exact aPat_lt (by omega)
  · obtain ⟨pt, k', ⟨q1, q2, q3, q4⟩, ⟨r1, r2, r3⟩, u, v⟩ := hC.2.1 i hi
    have hkk : k' = k := (nI_eq (by omega) (by omega)).mp (r1.symm.trans hk)
    subst hkk
    have ha := hne (hlin i hi40)
    refine ⟨va_up pt k' q, k' + 1, ⟨?_, ?_, ?_, ?_⟩, ⟨?_, ?_, by omega⟩, ?_, fun j hj => ?_⟩
    · rw [patS_ne ha (by omega), aPat_lt (by omega)]; exact q1
    · rw [patS_ne ha (by omega), aPat_lt (by omega)]; exact q2
    · rw [patS_ne ha (by omega), aPat_lt (by omega)]; exact q3
    · rw [patS_ne ha (by omega), aPat_lt (by omega)]; exact q4
    · unfold patS
      rw [sF_uF, if_pos ⟨rfl, rfl⟩]
    · rw [aPat_12, if_pos rfl]
    · rw [patS_ne ha (by omega), patS_ne ha (by omega), patS_ne ha (by omega), patS_ne ha (by omega), aPat_lt (by omega), aPat_lt (by omega), aPat_lt (by omega)]
      exact u
    · by_cases hjk : j = k'
      · subst hjk
        rw [va_up_self, sB_patS, u2_eq]
        obtain ⟨z1, z2, z3, z4⟩ := patS_q (S := S) (a := ad i) (pa := pa (ad i)) (q := q) (k := j) (name := name) (places := places) (port := port) (den := den)
        obtain ⟨y1, y2, y3, y4⟩ := aPat_q (M := M) (i := i) (k := j) (name := name) (places := places) (port := port) (den := den)
        refine ⟨rfl, ?_, z1.trans y1.symm, z2.trans y2.symm, z3.trans y3.symm, z4.trans y4.symm⟩
        unfold patS patT patI
        exact o_uF (o_uB (o_uF (o_uF (o_uF (o_uF (isO_nO S 2 q))))))
      · obtain ⟨v1, v2, v3, v4, v5, v6⟩ := v j (by omega)
        have hp := hne v2
        rw [va_up_ne _ _ hjk, sB_patS, u2_ne2 hjk, patS_ne hp (by omega), patS_ne hp (by omega), patS_ne hp (by omega), patS_ne hp (by omega), aPat_p (by omega) (by omega), aPat_p (by omega) (by omega), aPat_p (by omega) (by omega), aPat_p (by omega) (by omega)]
        exact ⟨v1, hcl.1 _ 2 v2, v3, v4, v5, v6⟩
  · rw [sB_patS, u2_off]
    intro z
    have h1 := hG.2.2.1.2.1.2
    rw [z, (hpin i hi40).2] at h1
    exact absurd h1 (by decide)
  · rw [sB_patS, u2_off]
    intro z
    have h1 := hG.2.2.2.1.2.1.2
    rw [z, (hpin i hi40).2] at h1
    exact absurd h1 (by decide)
/-! a sighted line -/
def aTr (sc : Nat → Int32) (M : Nat → Nat → Int32) (n : Nat) (name port key : Int32) : Nat → Nat → Int32 :=
  if sc 3 = 0 then aPat (aAdd M n 0 key (sc 1)) n 0 name 15 port 0 else aHash (aAdd M n 0 key (sc 1)) n name port ((7 * name + key) % 100)

