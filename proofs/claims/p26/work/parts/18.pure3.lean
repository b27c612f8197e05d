/-! the object's own numbers -/
theorem cC_h {S S' : hS} {h ca sa : Nat} {ad pa : Nat → Nat} {sc sc' : Nat → Int32} {M : Nat → Nat → Int32} {n nc ns : Nat} (hO4 : isO S h 4) (hC : cC S h ca sa ad pa sc M n nc ns) (hO : ∀ a k, isO S a k → isO S' a k) (hF : ∀ x a, x < 46 → sF S' x a = sF S x a) (hB : sB S' = sB S)
    (h4 : sc' 4 = sc 4) (h17 : sc' 17 = sc 17) (h25 : sc' 25 = sc 25) (g1 : sF S' 46 h = sc' 1) (g2 : sF S' 47 h = sc' 2) (g3 : sF S' 48 h = sc' 3) (g3b : isB (sc' 3)) (g4 : sF S' 51 h = sc' 29) (g5 : ¬ sc' 29 = -1 → sF S' 49 h = sc' 30 ∧ sF S' 50 h = sc' 31) : cC S' h ca sa ad pa sc' M n nc ns := by
  obtain ⟨⟨n1, n2, n3⟩, hL, ⟨a1, a2, a3⟩, ⟨b1, b2, b3⟩, -, -, hc, hs⟩ := hC
  refine ⟨⟨by rw [hF 41 h (by decide)]; exact n1, h4.trans n2, n3⟩, cL_to n hL (fun j h1 h2 => by omega) (fun j h1 h2 x h3 h4 => hF x _ (by omega)) (fun a ha => ⟨hO a 2 ha, fun x h3 h4 => hF x _ (by omega)⟩) (fun _ _ _ _ _ => by rw [hB]) (fun j hj => ⟨fun f _ _ => rfl, fun f k hf _ _ => rfl⟩) (fun z => absurd z (Nat.lt_irrefl n)), ⟨by rw [hF 43 h (by decide)]; exact a1, h17.trans a2, a3⟩, ⟨by rw [hF 45 h (by decide)]; exact b1, h25.trans b2, b3⟩, ⟨g1, g2, g3, g3b⟩, ⟨g4, g5⟩, fun i hi => ?_, fun i hi => ?_⟩
  · obtain ⟨a, e0, e1, e2⟩ := hc i hi
    refine ⟨a, by rw [hB]; exact e0, hO a 0 e1, ?_⟩
    rw [hF 0 a (by decide), hF 1 a (by decide), hF 2 a (by decide), hF 3 a (by decide), hF 4 a (by decide), hF 5 a (by decide), hF 6 a (by decide)]
    exact e2
  · obtain ⟨a, e0, e1, e2⟩ := hs i hi
    refine ⟨a, by rw [hB]; exact e0, hO a 3 e1, ?_⟩
    rw [hF 30 a (by decide), hF 31 a (by decide), hF 32 a (by decide)]
    exact e2
def sightS (S : hS) (h : Nat) (rule b : Int32) : hS := uF (uF S 47 h rule) 48 h b
def waitS (S : hS) (h : Nat) (name port key : Int32) : hS := uF (uF (uF S 49 h name) 50 h port) 51 h key
def aSight (sc : Nat → Int32) (rule b : Int32) : Nat → Int32 := va_up (va_up sc 2 rule) 3 b
def aWait (sc : Nat → Int32) (name port key : Int32) : Nat → Int32 := va_up (va_up (va_up sc 29 key) 30 name) 31 port
theorem v_ne {α : Type} {f : Nat → α} {k j : Nat} {v : α} (h : j ≠ k) : va_up f k v j = f j := va_up_ne f v h
theorem cC_sight {S : hS} {h bk ca sa : Nat} {ad pa : Nat → Nat} {sc : Nat → Int32} {M : Nat → Nat → Int32} {n nc ns : Nat} {rule b : Int32} (hG : cG S h bk ca sa ad pa) (hC : cC S h ca sa ad pa sc M n nc ns) (hb : isB b) : cG (sightS S h rule b) h bk ca sa ad pa ∧ cC (sightS S h rule b) h ca sa ad pa (aSight sc rule b) M n nc ns ∧ clF S (sightS S h rule b) := by
  have hcl : clF S (sightS S h rule b) := (clF_uF _ _ _ (by decide)).trans (clF_uF _ _ _ (by decide))
  refine ⟨cG_uF _ _ _ (cG_uF _ _ _ hG), ?_, hcl⟩
  have hx := hC.2.2
  unfold sightS aSight at *
  refine cC_h hG.1 hC hcl.1 (fun x a hx => by rw [sF_uF, if_neg (by omega), sF_uF, if_neg (by omega)]) (by rw [sB_uF, sB_uF]) (by rw [v_ne (by decide), v_ne (by decide)]) (by rw [v_ne (by decide), v_ne (by decide)]) (by rw [v_ne (by decide), v_ne (by decide)]) ?_ ?_ ?_ (by rw [va_up_self]; exact hb) ?_ ?_
  · rw [sF_uF, if_neg (by omega), sF_uF, if_neg (by omega), v_ne (by decide), v_ne (by decide)]; exact hx.2.2.1.1
  · rw [sF_uF, if_neg (by omega), sF_uF, if_pos ⟨rfl, rfl⟩, v_ne (by decide), va_up_self]
  · rw [sF_uF, if_pos ⟨rfl, rfl⟩, va_up_self]
  · rw [sF_uF, if_neg (by omega), sF_uF, if_neg (by omega), v_ne (by decide), v_ne (by decide)]; exact hx.2.2.2.1.1
  · rw [sF_uF, if_neg (by omega), sF_uF, if_neg (by omega), sF_uF, if_neg (by omega), sF_uF, if_neg (by omega), v_ne (by decide), v_ne (by decide), v_ne (by decide), v_ne (by decide), v_ne (by decide), v_ne (by decide)]; exact hx.2.2.2.1.2
theorem cC_day {S : hS} {h bk ca sa : Nat} {ad pa : Nat → Nat} {sc : Nat → Int32} {M : Nat → Nat → Int32} {n nc ns : Nat} {d : Int32} (hG : cG S h bk ca sa ad pa) (hC : cC S h ca sa ad pa sc M n nc ns) : cG (uF S 46 h d) h bk ca sa ad pa ∧ cC (uF S 46 h d) h ca sa ad pa (va_up sc 1 d) M n nc ns ∧ clF S (uF S 46 h d) := by
  have hcl : clF S (uF S 46 h d) := clF_uF _ _ _ (by decide)
  have hx := hC.2.2
  refine ⟨cG_uF _ _ _ hG, ?_, hcl⟩
  refine cC_h hG.1 hC hcl.1 (fun x a hx => by rw [sF_uF, if_neg (by omega)]) (by rw [sB_uF]) (v_ne (by decide)) (v_ne (by decide)) (v_ne (by decide)) ?_ ?_ ?_ ?_ ?_ ?_
  · rw [sF_uF, if_pos ⟨rfl, rfl⟩, va_up_self]
  · rw [sF_uF, if_neg (by omega), v_ne (by decide)]; exact hx.2.2.1.2.1
  · rw [sF_uF, if_neg (by omega), v_ne (by decide)]; exact hx.2.2.1.2.2.1
  · rw [v_ne (by decide)]; exact hx.2.2.1.2.2.2
  · rw [sF_uF, if_neg (by omega), v_ne (by decide)]; exact hx.2.2.2.1.1
  · rw [sF_uF, if_neg (by omega), sF_uF, if_neg (by omega), v_ne (by decide), v_ne (by decide), v_ne (by decide)]; exact hx.2.2.2.1.2
theorem cC_wait {S : hS} {h bk ca sa : Nat} {ad pa : Nat → Nat} {sc : Nat → Int32} {M : Nat → Nat → Int32} {n nc ns : Nat} {name port key : Int32} (hG : cG S h bk ca sa ad pa) (hC : cC S h ca sa ad pa sc M n nc ns) : cG (waitS S h name port key) h bk ca sa ad pa ∧ cC (waitS S h name port key) h ca sa ad pa (aWait sc name port key) M n nc ns ∧ clF S (waitS S h name port key) := by
  have hcl : clF S (waitS S h name port key) := ((clF_uF _ _ _ (by decide)).trans (clF_uF _ _ _ (by decide))).trans (clF_uF _ _ _ (by decide))
  have hx := hC.2.2
  refine ⟨cG_uF _ _ _ (cG_uF _ _ _ (cG_uF _ _ _ hG)), ?_, hcl⟩
  unfold waitS aWait at *
  refine cC_h hG.1 hC hcl.1 (fun x a hx => by rw [sF_uF, if_neg (by omega), sF_uF, if_neg (by omega), sF_uF, if_neg (by omega)]) (by rw [sB_uF, sB_uF, sB_uF]) (by rw [v_ne (by decide), v_ne (by decide), v_ne (by decide)]) (by rw [v_ne (by decide), v_ne (by decide), v_ne (by decide)]) (by rw [v_ne (by decide), v_ne (by decide), v_ne (by decide)]) ?_ ?_ ?_ ?_ ?_ ?_
  · rw [sF_uF, if_neg (by omega), sF_uF, if_neg (by omega), sF_uF, if_neg (by omega), v_ne (by decide), v_ne (by decide), v_ne (by decide)]; exact hx.2.2.1.1
  · rw [sF_uF, if_neg (by omega), sF_uF, if_neg (by omega), sF_uF, if_neg (by omega), v_ne (by decide), v_ne (by decide), v_ne (by decide)]; exact hx.2.2.1.2.1
  · rw [sF_uF, if_neg (by omega), sF_uF, if_neg (by omega), sF_uF, if_neg (by omega), v_ne (by decide), v_ne (by decide), v_ne (by decide)]; exact hx.2.2.1.2.2.1
  · rw [v_ne (by decide), v_ne (by decide), v_ne (by decide)]; exact hx.2.2.1.2.2.2
  · rw [sF_uF, if_pos ⟨rfl, rfl⟩, v_ne (by decide), v_ne (by decide), va_up_self]
  · intro _
    rw [sF_uF, if_neg (by omega), sF_uF, if_neg (by omega), sF_uF, if_pos ⟨rfl, rfl⟩, sF_uF, if_neg (by omega), sF_uF, if_pos ⟨rfl, rfl⟩, v_ne (by decide), va_up_self, va_up_self]
    exact ⟨rfl, rfl⟩
/-- nothing waits; the name and the port told are free -/
theorem cC_none {S : hS} {h bk ca sa : Nat} {ad pa : Nat → Nat} {sc : Nat → Int32} {M : Nat → Nat → Int32} {n nc ns : Nat} {name port : Int32} (hG : cG S h bk ca sa ad pa) (hC : cC S h ca sa ad pa sc M n nc ns) : cG (uF S 51 h (-1)) h bk ca sa ad pa ∧ cC (uF S 51 h (-1)) h ca sa ad pa (aWait sc name port (-1)) M n nc ns ∧ clF S (uF S 51 h (-1)) := by
  have hcl : clF S (uF S 51 h (-1)) := clF_uF _ _ _ (by decide)
  have hx := hC.2.2
  refine ⟨cG_uF _ _ _ hG, ?_, hcl⟩
  unfold aWait
  refine cC_h hG.1 hC hcl.1 (fun x a hx => by rw [sF_uF, if_neg (by omega)]) (by rw [sB_uF]) (by rw [v_ne (by decide), v_ne (by decide), v_ne (by decide)]) (by rw [v_ne (by decide), v_ne (by decide), v_ne (by decide)]) (by rw [v_ne (by decide), v_ne (by decide), v_ne (by decide)]) ?_ ?_ ?_ ?_ ?_ ?_
  · rw [sF_uF, if_neg (by omega), v_ne (by decide), v_ne (by decide), v_ne (by decide)]; exact hx.2.2.1.1
  · rw [sF_uF, if_neg (by omega), v_ne (by decide), v_ne (by decide), v_ne (by decide)]; exact hx.2.2.1.2.1
  · rw [sF_uF, if_neg (by omega), v_ne (by decide), v_ne (by decide), v_ne (by decide)]; exact hx.2.2.1.2.2.1
  · rw [v_ne (by decide), v_ne (by decide), v_ne (by decide)]; exact hx.2.2.1.2.2.2
  · rw [sF_uF, if_pos ⟨rfl, rfl⟩, v_ne (by decide), v_ne (by decide), va_up_self]
  · intro z
    rw [v_ne (by decide), v_ne (by decide), va_up_self] at z
    exact absurd rfl z
theorem cC_none1 {S : hS} {h bk ca sa : Nat} {ad pa : Nat → Nat} {sc : Nat → Int32} {M : Nat → Nat → Int32} {n nc ns : Nat} (hG : cG S h bk ca sa ad pa) (hC : cC S h ca sa ad pa sc M n nc ns) : cC (uF S 51 h (-1)) h ca sa ad pa (va_up sc 29 (-1)) M n nc ns := by
  have hcl : clF S (uF S 51 h (-1)) := clF_uF _ _ _ (by decide)
  have hx := hC.2.2
  refine cC_h hG.1 hC hcl.1 (fun x a hx => by rw [sF_uF, if_neg (by omega)]) (by rw [sB_uF]) (v_ne (by decide)) (v_ne (by decide)) (v_ne (by decide)) ?_ ?_ ?_ ?_ ?_ ?_
  · rw [sF_uF, if_neg (by omega), v_ne (by decide)]; exact hx.2.2.1.1
  · rw [sF_uF, if_neg (by omega), v_ne (by decide)]; exact hx.2.2.1.2.1
  · rw [sF_uF, if_neg (by omega), v_ne (by decide)]; exact hx.2.2.1.2.2.1
  · rw [v_ne (by decide)]; exact hx.2.2.1.2.2.2
  · rw [sF_uF, if_pos ⟨rfl, rfl⟩, va_up_self]
  · intro z
    rw [va_up_self] at z
    exact absurd rfl z
/-! certificates, spans -/
def certT (S : hS) (ca q nc : Nat) (au key name places serial first last : Int32) : hS := uB (certI (nO S 0 q) q au key name places serial first last) ca nc (some q)
def certS (S : hS) (h ca q nc : Nat) (au key name places serial first last : Int32) : hS := uF (certT S ca q nc au key name places serial first last) 43 h (nI (nc + 1))
def spanT (S : hS) (sa q ns : Nat) (au fr to : Int32) : hS := uB (spanI (nO S 3 q) q au fr to) sa ns (some q)
def spanS (S : hS) (h sa q ns : Nat) (au fr to : Int32) : hS := uF (spanT S sa q ns au fr to) 45 h (nI (ns + 1))
def aCert (M : Nat → Nat → Int32) (i : Nat) (au key name places serial first last : Int32) : Nat → Nat → Int32 := u2 (u2 (u2 (u2 (u2 (u2 (u2 M 18 i au) 19 i key) 20 i name) 21 i places) 22 i serial) 23 i first) 24 i last
def aSpan (M : Nat → Nat → Int32) (i : Nat) (au fr to : Int32) : Nat → Nat → Int32 := u2 (u2 (u2 M 26 i au) 27 i fr) 28 i to
theorem certS_ne {S : hS} {h ca q nc x b : Nat} {au key name places serial first last : Int32} (hb : b ≠ q) (hx : x ≠ 43 ∨ b ≠ h) : sF (certS S h ca q nc au key name places serial first last) x b = sF S x b := by
  unfold certS certT certI
  rw [sF_uF, if_neg (by omega), sF_uB, sF_uF, if_neg (by omega), sF_uF, if_neg (by omega), sF_uF, if_neg (by omega), sF_uF, if_neg (by omega), sF_uF, if_neg (by omega), sF_uF, if_neg (by omega), sF_uF, if_neg (by omega), sF_nO, if_neg hb]
theorem sB_certS {S : hS} {h ca q nc : Nat} {au key name places serial first last : Int32} : sB (certS S h ca q nc au key name places serial first last) = u2 (sB S) ca nc (some q) := by
  unfold certS certT certI
  rw [sB_uF]
  show u2 _ _ _ _ = _
  rw [sB_uF, sB_uF, sB_uF, sB_uF, sB_uF, sB_uF, sB_uF, sB_nO]
theorem clF_certS {S : hS} {q : Nat} (h ca nc : Nat) (au key name places serial first last : Int32) (hq : q ∉ sL S) : clF S (certS S h ca q nc au key name places serial first last) := by
  unfold certS certT certI
  exact (((((((((clF_nO hq).trans (clF_uF _ _ _ (by decide))).trans (clF_uF _ _ _ (by decide))).trans (clF_uF _ _ _ (by decide))).trans (clF_uF _ _ _ (by decide))).trans (clF_uF _ _ _ (by decide))).trans (clF_uF _ _ _ (by decide))).trans (clF_uF _ _ _ (by decide))).trans (clF_uB _ _ _ _)).trans (clF_uF _ _ _ (by decide))
theorem certT_inc {S : hS} {h ca q nc : Nat} {au key name places serial first last : Int32} (hO : isO S h 4) (hq : q ∉ sL S) (hk : sF S 43 h = nI nc) : sF (certT S ca q nc au key name places serial first last) 43 h + 1 = nI (nc + 1) := by
  have hb := ne_of_mem hO.1 hq
  unfold certT certI
  rw [sF_uB, sF_uF, if_neg (by omega), sF_uF, if_neg (by omega), sF_uF, if_neg (by omega), sF_uF, if_neg (by omega), sF_uF, if_neg (by omega), sF_uF, if_neg (by omega), sF_uF, if_neg (by omega), sF_nO, if_neg hb, hk, nI_1]
theorem spanS_ne {S : hS} {h sa q ns x b : Nat} {au fr to : Int32} (hb : b ≠ q) (hx : x ≠ 45 ∨ b ≠ h) : sF (spanS S h sa q ns au fr to) x b = sF S x b := by
  unfold spanS spanT spanI
  rw [sF_uF, if_neg (by omega), sF_uB, sF_uF, if_neg (by omega), sF_uF, if_neg (by omega), sF_uF, if_neg (by omega), sF_nO, if_neg hb]
theorem sB_spanS {S : hS} {h sa q ns : Nat} {au fr to : Int32} : sB (spanS S h sa q ns au fr to) = u2 (sB S) sa ns (some q) := by
  unfold spanS spanT spanI
  rw [sB_uF]
  show u2 _ _ _ _ = _
  rw [sB_uF, sB_uF, sB_uF, sB_nO]
theorem clF_spanS {S : hS} {q : Nat} (h sa ns : Nat) (au fr to : Int32) (hq : q ∉ sL S) : clF S (spanS S h sa q ns au fr to) := by
  unfold spanS spanT spanI
  exact (((((clF_nO hq).trans (clF_uF _ _ _ (by decide))).trans (clF_uF _ _ _ (by decide))).trans (clF_uF _ _ _ (by decide))).trans (clF_uB _ _ _ _)).trans (clF_uF _ _ _ (by decide))
theorem spanT_inc {S : hS} {h sa q ns : Nat} {au fr to : Int32} (hO : isO S h 4) (hq : q ∉ sL S) (hk : sF S 45 h = nI ns) : sF (spanT S sa q ns au fr to) 45 h + 1 = nI (ns + 1) := by
  have hb := ne_of_mem hO.1 hq
  unfold spanT spanI
  rw [sF_uB, sF_uF, if_neg (by omega), sF_uF, if_neg (by omega), sF_uF, if_neg (by omega), sF_nO, if_neg hb, hk, nI_1]
theorem aCert_lo {M : Nat → Nat → Int32} {i f j : Nat} {au key name places serial first last : Int32} (h : f < 18 ∨ 25 ≤ f ∨ j ≠ i) : aCert M i au key name places serial first last f j = M f j := by
  unfold aCert
  rw [u2_at, if_neg (by omega), u2_at, if_neg (by omega), u2_at, if_neg (by omega), u2_at, if_neg (by omega), u2_at, if_neg (by omega), u2_at, if_neg (by omega), u2_at, if_neg (by omega)]
theorem aSpan_lo {M : Nat → Nat → Int32} {i f j : Nat} {au fr to : Int32} (h : f < 26 ∨ 29 ≤ f ∨ j ≠ i) : aSpan M i au fr to f j = M f j := by
  unfold aSpan
  rw [u2_at, if_neg (by omega), u2_at, if_neg (by omega), u2_at, if_neg (by omega)]
theorem cC_cert {S : hS} {h bk ca sa q : Nat} {ad pa : Nat → Nat} {sc : Nat → Int32} {M : Nat → Nat → Int32} {n nc ns : Nat} {au key name places serial first last : Int32} (hG : cG S h bk ca sa ad pa) (hC : cC S h ca sa ad pa sc M n nc ns) (hq : q ∉ sL S) (hc : nc < 20) :
    cG (certS S h ca q nc au key name places serial first last) h bk ca sa ad pa ∧ cC (certS S h ca q nc au key name places serial first last) h ca sa ad pa (va_up sc 17 (nI (nc + 1))) (aCert M nc au key name places serial first last) n (nc + 1) ns ∧ clF S (certS S h ca q nc au key name places serial first last) := by
  have hcl := clF_certS (S := S) h ca nc au key name places serial first last hq
  have hh := ne_of_mem hG.1.1 hq
  have hne : ∀ {b t}, isO S b t → b ≠ q := fun hb => ne_of_mem hb.1 hq
  have k8 := hG.2.2.1.2.1.2
  obtain ⟨⟨n1, n2, n3⟩, hL, ⟨a1, a2, a3⟩, ⟨b1, b2, b3⟩, ⟨c1, c2, c3, c4⟩, ⟨d1, d2⟩, e, f⟩ := hC
  have hoff : ∀ {z t}, isO S z t → t ≠ 8 → z ≠ ca := fun hz ht w => ht (by rw [← hz.2, w]; exact k8)
  refine ⟨?_, ⟨⟨by rw [certS_ne hh (by omega)]; exact n1, by rw [v_ne (by decide)]; exact n2, n3⟩, cL_to n hL (fun j h1 h2 => by omega) (fun j h1 h2 x h3 h4 => certS_ne (hne (hG.2.2.2.2.1 j (by omega)).2.1) (by omega)) (fun a ha => ⟨hcl.1 a 2 ha, fun x h3 h4 => certS_ne (hne ha) (by omega)⟩) (fun j h1 h2 m hm => ?_) (fun j hj => ⟨fun f _ _ => aCert_lo (by omega), fun f k hf _ _ => aCert_lo (by omega)⟩) (fun z => absurd z (Nat.lt_irrefl n)), ⟨?_, va_up_self _ _ _, hc⟩, ⟨by rw [certS_ne hh (by omega)]; exact b1, by rw [v_ne (by decide)]; exact b2, b3⟩, ⟨by rw [certS_ne hh (by omega), v_ne (by decide)]; exact c1, by rw [certS_ne hh (by omega), v_ne (by decide)]; exact c2, by rw [certS_ne hh (by omega), v_ne (by decide)]; exact c3, by rw [v_ne (by decide)]; exact c4⟩, ⟨by rw [certS_ne hh (by omega), v_ne (by decide)]; exact d1, by rw [certS_ne hh (by omega), certS_ne hh (by omega), v_ne (by decide), v_ne (by decide), v_ne (by decide)]; exact d2⟩, fun i hi => ?_, fun i hi => ?_⟩, hcl⟩
  · unfold certS certT certI
    refine cG_uF _ _ _ (cG_uB _ _ (cG_uF _ _ _ (cG_uF _ _ _ (cG_uF _ _ _ (cG_uF _ _ _ (cG_uF _ _ _ (cG_uF _ _ _ (cG_uF _ _ _ (cG_nO hG hq)))))))) ?_)
    rw [sK_uF, sK_uF, sK_uF, sK_uF, sK_uF, sK_uF, sK_uF, (isO_nO' hG.2.2.1.2.1 hq).2]
    decide
  · rw [sB_certS, u2_off _ _ _ (hoff (hG.2.2.2.2.1 j (by omega)).2.2.2.1 (by decide))]
  · unfold certS
    rw [sF_uF, if_pos ⟨rfl, rfl⟩]
  · by_cases hii : i = nc
    · subst hii
      refine ⟨q, by rw [sB_certS, u2_eq], ?_⟩
      unfold certS certT certI aCert
      refine ⟨o_uF (o_uB (o_uF (o_uF (o_uF (o_uF (o_uF (o_uF (o_uF (isO_nO S 0 q))))))))), ?_⟩
      simp only [tF_uF, tF_uB, u2_at']
      simp
    · obtain ⟨a, g0, g1, g2⟩ := e i (by omega)
      have ha := hne g1
      refine ⟨a, by rw [sB_certS, u2_ne2 hii]; exact g0, hcl.1 a 0 g1, ?_⟩
      rw [certS_ne ha (by omega), certS_ne ha (by omega), certS_ne ha (by omega), certS_ne ha (by omega), certS_ne ha (by omega), certS_ne ha (by omega), certS_ne ha (by omega), aCert_lo (by omega), aCert_lo (by omega), aCert_lo (by omega), aCert_lo (by omega), aCert_lo (by omega), aCert_lo (by omega), aCert_lo (by omega)]
      exact g2
  · obtain ⟨a, g0, g1, g2⟩ := f i hi
    have ha := hne g1
    refine ⟨a, by rw [sB_certS, u2_off _ _ _ (hoff hG.2.2.2.1.2.1 (by decide))]; exact g0, hcl.1 a 3 g1, ?_⟩
    rw [certS_ne ha (by omega), certS_ne ha (by omega), certS_ne ha (by omega), aCert_lo (by omega), aCert_lo (by omega), aCert_lo (by omega)]
    exact g2
theorem cC_span {S : hS} {h bk ca sa q : Nat} {ad pa : Nat → Nat} {sc : Nat → Int32} {M : Nat → Nat → Int32} {n nc ns : Nat} {au fr to : Int32} (hG : cG S h bk ca sa ad pa) (hC : cC S h ca sa ad pa sc M n nc ns) (hq : q ∉ sL S) (hc : ns < 20) :
    cG (spanS S h sa q ns au fr to) h bk ca sa ad pa ∧ cC (spanS S h sa q ns au fr to) h ca sa ad pa (va_up sc 25 (nI (ns + 1))) (aSpan M ns au fr to) n nc (ns + 1) ∧ clF S (spanS S h sa q ns au fr to) := by
  have hcl := clF_spanS (S := S) h sa ns au fr to hq
  have hh := ne_of_mem hG.1.1 hq
  have hne : ∀ {b t}, isO S b t → b ≠ q := fun hb => ne_of_mem hb.1 hq
  have k11 := hG.2.2.2.1.2.1.2
  obtain ⟨⟨n1, n2, n3⟩, hL, ⟨a1, a2, a3⟩, ⟨b1, b2, b3⟩, ⟨c1, c2, c3, c4⟩, ⟨d1, d2⟩, e, f⟩ := hC
  have hoff : ∀ {z t}, isO S z t → t ≠ 11 → z ≠ sa := fun hz ht w => ht (by rw [← hz.2, w]; exact k11)
  refine ⟨?_, ⟨⟨by rw [spanS_ne hh (by omega)]; exact n1, by rw [v_ne (by decide)]; exact n2, n3⟩, cL_to n hL (fun j h1 h2 => by omega) (fun j h1 h2 x h3 h4 => spanS_ne (hne (hG.2.2.2.2.1 j (by omega)).2.1) (by omega)) (fun a ha => ⟨hcl.1 a 2 ha, fun x h3 h4 => spanS_ne (hne ha) (by omega)⟩) (fun j h1 h2 m hm => ?_) (fun j hj => ⟨fun f _ _ => aSpan_lo (by omega), fun f k hf _ _ => aSpan_lo (by omega)⟩) (fun z => absurd z (Nat.lt_irrefl n)), ⟨by rw [spanS_ne hh (by omega)]; exact a1, by rw [v_ne (by decide)]; exact a2, a3⟩, ⟨?_, va_up_self _ _ _, hc⟩, ⟨by rw [spanS_ne hh (by omega), v_ne (by decide)]; exact c1, by rw [spanS_ne hh (by omega), v_ne (by decide)]; exact c2, by rw [spanS_ne hh (by omega), v_ne (by decide)]; exact c3, by rw [v_ne (by decide)]; exact c4⟩, ⟨by rw [spanS_ne hh (by omega), v_ne (by decide)]; exact d1, by rw [spanS_ne hh (by omega), spanS_ne hh (by omega), v_ne (by decide), v_ne (by decide), v_ne (by decide)]; exact d2⟩, fun i hi => ?_, fun i hi => ?_⟩, hcl⟩
  · unfold spanS spanT spanI
    refine cG_uF _ _ _ (cG_uB _ _ (cG_uF _ _ _ (cG_uF _ _ _ (cG_uF _ _ _ (cG_nO hG hq)))) ?_)
    rw [sK_uF, sK_uF, sK_uF, (isO_nO' hG.2.2.2.1.2.1 hq).2]
    decide
  · rw [sB_spanS, u2_off _ _ _ (hoff (hG.2.2.2.2.1 j (by omega)).2.2.2.1 (by decide))]
  · unfold spanS
    rw [sF_uF, if_pos ⟨rfl, rfl⟩]
  · obtain ⟨a, g0, g1, g2⟩ := e i hi
    have ha := hne g1
    refine ⟨a, by rw [sB_spanS, u2_off _ _ _ (hoff hG.2.2.1.2.1 (by decide))]; exact g0, hcl.1 a 0 g1, ?_⟩
    rw [spanS_ne ha (by omega), spanS_ne ha (by omega), spanS_ne ha (by omega), spanS_ne ha (by omega), spanS_ne ha (by omega), spanS_ne ha (by omega), spanS_ne ha (by omega), aSpan_lo (by omega), aSpan_lo (by omega), aSpan_lo (by omega), aSpan_lo (by omega), aSpan_lo (by omega), aSpan_lo (by omega), aSpan_lo (by omega)]
    exact g2
  · by_cases hii : i = ns
    · subst hii
      refine ⟨q, by rw [sB_spanS, u2_eq], ?_⟩
      unfold spanS spanT spanI aSpan
      refine ⟨o_uF (o_uB (o_uF (o_uF (o_uF (isO_nO S 3 q))))), ?_⟩
      simp only [tF_uF, tF_uB, u2_at']
      simp
    · obtain ⟨a, g0, g1, g2⟩ := f i (by omega)
      have ha := hne g1
      refine ⟨a, by rw [sB_spanS, u2_ne2 hii]; exact g0, hcl.1 a 3 g1, ?_⟩
      rw [spanS_ne ha (by omega), spanS_ne ha (by omega), spanS_ne ha (by omega), aSpan_lo (by omega), aSpan_lo (by omega), aSpan_lo (by omega)]
      exact g2

