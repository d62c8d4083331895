def qAbout (f : Int → Int) (w : Int) : Int := if 0 ≤ w ∧ w ≤ 10 then (sAbout f w) else -9999002
def qChair (f : Int → Int) (c w : Int) : Int := if (0 ≤ c ∧ c < f 0) then (if 0 ≤ w ∧ w ≤ 8 then (sChairOf f c w) else -9999002) else -9999001
def qWobble (f : Int → Int) (c w : Int) : Int := if (0 ≤ c ∧ c < f 0) then (if 0 ≤ w ∧ w ≤ 1 then (sWn f c) else -9999002) else -9999001
def qLeg (f : Int → Int) (c k w : Int) : Int := if (0 ≤ c ∧ c < f 0) ∧ 0 ≤ k ∧ k < 4 then (if 0 ≤ w ∧ w ≤ 2 then (sLegOf f c k w) else -9999002) else -9999001
def qSpot (f : Int → Int) (fl k : Int) : Int := if (0 ≤ fl ∧ fl < f 1) ∧ 0 ≤ k ∧ k < 4 then (f (12 + (4 * fl + k))) else -9999001
def qBnd (f : Int → Int) (gu k : Int) : Int := if (0 ≤ gu ∧ gu < 4) ∧ 0 ≤ k ∧ k < 4 then (f (28 + (4 * gu + k))) else -9999001
def qSet (f : Int → Int) (w : Int) : Int := if 0 ≤ w ∧ w ≤ 1 then (f (10 + w)) else -9999002
def qTurn (f : Int → Int) (c fl w : Int) : Int := if (0 ≤ c ∧ c < f 0) ∧ (0 ≤ fl ∧ fl < f 1) then (if 0 ≤ w ∧ w ≤ 1 then ((if w = 0 then sBq f c fl else sWq f c fl)) else -9999002) else -9999001
def qBFloor (f : Int → Int) (c : Int) : Int := if (0 ≤ c ∧ c < f 0) then (sBf f c) else -9999001
def qBSaw (f : Int → Int) (c : Int) : Int := if (0 ≤ c ∧ c < f 0) then (sBs f c) else -9999001
def qFails (f : Int → Int) (c wt : Int) : Int := if (0 ≤ c ∧ c < f 0) then (if 1 ≤ wt ∧ wt ≤ 200 then (sFail f c wt) else -9999002) else -9999001
def qSim (f : Int → Int) (sd n : Int) : Int := if 1 ≤ n ∧ n ≤ 60 then (sSim f sd n.toNat) else -9999002
def qComes (f : Int → Int) (gu len : Int) : Int := if 0 ≤ gu ∧ gu < 4 then (if 100 ≤ len ∧ len ≤ 900 then (if f 0 < 10 then (f 0) else -9999003) else -9999002) else -9999001
def nComes (σ : SG) (gu len : Int) : SG := if (0 ≤ gu ∧ gu < 4) ∧ (100 ≤ len ∧ len ≤ 900) ∧ (σ.1 0 < 10) then push σ (fChair σ.1 gu len) else σ
def qLay (f : Int → Int) (x1 x2 x3 x4 : Int) : Int := if (0 ≤ x1 ∧ x1 ≤ 50) ∧ (0 ≤ x2 ∧ x2 ≤ 50) ∧ (0 ≤ x3 ∧ x3 ≤ 50) ∧ (0 ≤ x4 ∧ x4 ≤ 50) then (if f 1 < 4 then (f 1) else -9999003) else -9999002
def nLay (σ : SG) (x1 x2 x3 x4 : Int) : SG := if ((0 ≤ x1 ∧ x1 ≤ 50) ∧ (0 ≤ x2 ∧ x2 ≤ 50) ∧ (0 ≤ x3 ∧ x3 ≤ 50) ∧ (0 ≤ x4 ∧ x4 ≤ 50)) ∧ (σ.1 1 < 4) then push σ (fFloor σ.1 x1 x2 x3 x4) else σ
def qLevel (f : Int → Int) (fl k v : Int) : Int := if (0 ≤ fl ∧ fl < f 1) ∧ 0 ≤ k ∧ k < 4 then (if 0 ≤ v ∧ v ≤ 50 then (f (12 + (4 * fl + k))) else -9999002) else -9999001
def nLevel (σ : SG) (fl k v : Int) : SG := if ((0 ≤ fl ∧ fl < σ.1 1) ∧ 0 ≤ k ∧ k < 4) ∧ (0 ≤ v ∧ v ≤ 50) then push σ (fLevel σ.1 fl k v) else σ
def qBring (f : Int → Int) (c fl q : Int) : Int := if (0 ≤ c ∧ c < f 0) ∧ (0 ≤ fl ∧ fl < f 1) then (if 0 ≤ q ∧ q < 4 then (sWob f c fl q) else -9999002) else -9999001
def nBring (σ : SG) (c fl q : Int) : SG := if ((0 ≤ c ∧ c < σ.1 0) ∧ (0 ≤ fl ∧ fl < σ.1 1)) ∧ (0 ≤ q ∧ q < 4) then push σ (fBring σ.1 c fl q) else σ
def qSaw (f : Int → Int) (c k n : Int) : Int := if (0 ≤ c ∧ c < f 0) ∧ 0 ≤ k ∧ k < 4 then (if 1 ≤ n ∧ n ≤ 800 then (if 100 ≤ f (49 + 9 * c + k) - n then (f (49 + 9 * c + k) - n) else -9999003) else -9999002) else -9999001
def nSaw (σ : SG) (c k n : Int) : SG := if ((0 ≤ c ∧ c < σ.1 0) ∧ 0 ≤ k ∧ k < 4) ∧ (1 ≤ n ∧ n ≤ 800) ∧ (100 ≤ σ.1 (49 + 9 * c + k) - n) then push σ (fSaw σ.1 c k n) else σ
def qShim (f : Int → Int) (c k n : Int) : Int := if (0 ≤ c ∧ c < f 0) ∧ 0 ≤ k ∧ k < 4 then (if 1 ≤ n ∧ n ≤ 99 then (if f (49 + 9 * c + k) + n ≤ 900 then (f (49 + 9 * c + k) + n) else -9999003) else -9999002) else -9999001
def nShim (σ : SG) (c k n : Int) : SG := if ((0 ≤ c ∧ c < σ.1 0) ∧ 0 ≤ k ∧ k < 4) ∧ (1 ≤ n ∧ n ≤ 99) ∧ (σ.1 (49 + 9 * c + k) + n ≤ 900) then push σ (fShim σ.1 c k n) else σ
def qTest (f : Int → Int) (c : Int) : Int := if (0 ≤ c ∧ c < f 0) then (sWhy f c) else -9999001
def nTest (σ : SG) (c : Int) : SG := if ((0 ≤ c ∧ c < σ.1 0)) then push σ (fTest σ.1 c) else σ
def qSit (f : Int → Int) (c wt : Int) : Int := if (0 ≤ c ∧ c < f 0) then (if 1 ≤ wt ∧ wt ≤ 200 then (sSitN f c (wt / f 11) (sIdle f c) 4) else -9999002) else -9999001
def nSit (σ : SG) (c wt : Int) : SG := if ((0 ≤ c ∧ c < σ.1 0)) ∧ (1 ≤ wt ∧ wt ≤ 200) then push σ (fSit σ.1 c wt) else σ
def qBound (f : Int → Int) (gu k v : Int) : Int := if (0 ≤ gu ∧ gu < 4) ∧ 0 ≤ k ∧ k < 4 then (if (k < 2 ∧ 100 ≤ v ∧ v ≤ 900 ∨ k = 2 ∧ 0 ≤ v ∧ v ≤ 100 ∨ k = 3 ∧ 0 ≤ v ∧ v ≤ 200) then (fBound f gu k v 4 - f 4) else -9999002) else -9999001
def nBound (σ : SG) (gu k v : Int) : SG := if ((0 ≤ gu ∧ gu < 4) ∧ 0 ≤ k ∧ k < 4) ∧ ((k < 2 ∧ 100 ≤ v ∧ v ≤ 900 ∨ k = 2 ∧ 0 ≤ v ∧ v ≤ 100 ∨ k = 3 ∧ 0 ≤ v ∧ v ≤ 200)) then push σ (fBound σ.1 gu k v) else σ
def qPut (f : Int → Int) (wh v : Int) : Int := if (wh = 0 ∧ 0 ≤ v ∧ v ≤ 50 ∨ wh = 1 ∧ 1 ≤ v ∧ v ≤ 200) then (f (10 + wh)) else -9999002
def nPut (σ : SG) (wh v : Int) : SG := if ((wh = 0 ∧ 0 ≤ v ∧ v ≤ 50 ∨ wh = 1 ∧ 1 ≤ v ∧ v ≤ 200)) then push σ (fSet σ.1 wh v) else σ
def qUndo (σ : SG) : Int := match σ.2.1 with
  | [] => -9999003
  | _ :: r => (r.length : Int)
def nUndo (σ : SG) : SG := match σ.2.1 with
  | [] => σ
  | u :: r => (u, (r, σ.2.2))
def qKeep (f : Int → Int) (k : Int) : Int := if 0 ≤ k ∧ k ≤ 1 then sStamped f else -9999001
def nKeep (σ : SG) (k : Int) : SG := if 0 ≤ k ∧ k ≤ 1 then (σ.1, (σ.2.1, (if k = 0 then some σ.1 else σ.2.2.1, if k = 0 then σ.2.2.2 else some σ.1))) else σ
def slotOf (σ : SG) (k : Int) : Option (Int → Int) := if k = 0 then σ.2.2.1 else σ.2.2.2
def qBack (σ : SG) (k : Int) : Int := if 0 ≤ k ∧ k ≤ 1 then (match slotOf σ k with
  | none => -9999003
  | some g => sStamped g) else -9999001
def nBack (σ : SG) (k : Int) : SG := if 0 ≤ k ∧ k ≤ 1 then (match slotOf σ k with
  | none => σ
  | some g => (g, ([], σ.2.2))) else σ
theorem w_about {M M1 : MM} {s : Nat} {σ : SG} {w z : Int} (hS : Os M s σ) (e : ((0 ≤ w ∧ w ≤ 10) ∧ z = sAbout σ.1 w ∧ M = M1) ∨ (z = -9999002 ∧ (¬ (0 ≤ w ∧ w ≤ 10) ∧ xIA = xIA ∧ M = M1))) : z = qAbout σ.1 w ∧ M = M1 := by
  have hI := hS.1.2
  rcases e with ⟨c1, ev, e⟩ | ⟨ev, e⟩
  · exact ⟨by rw [qAbout, if_pos c1]; exact ev, e⟩
  · rcases e with ⟨n1, q, e⟩
    · exact ⟨by rw [qAbout, if_neg n1]; exact ev, e⟩
theorem w_chairOf {M M1 : MM} {s : Nat} {σ : SG} {c w z : Int} (hS : Os M s σ) (e : ((0 ≤ c ∧ c < σ.1 0) ∧ (0 ≤ w ∧ w ≤ 8) ∧ z = sChairOf σ.1 c w ∧ M = M1) ∨ (z = -9999001 ∧ ((¬ ((0 ≤ c ∧ c < σ.1 0)) ∧ xIO = xIO ∧ M = M1) ∨ (((0 ≤ c ∧ c < σ.1 0)) ∧ ¬ (0 ≤ w ∧ w ≤ 8) ∧ xIO = xIA ∧ M = M1))) ∨ (z = -9999002 ∧ ((¬ ((0 ≤ c ∧ c < σ.1 0)) ∧ xIA = xIO ∧ M = M1) ∨ (((0 ≤ c ∧ c < σ.1 0)) ∧ ¬ (0 ≤ w ∧ w ≤ 8) ∧ xIA = xIA ∧ M = M1)))) : z = qChair σ.1 c w ∧ M = M1 := by
  have hI := hS.1.2
  rcases e with ⟨c1, c2, ev, e⟩ | ⟨ev, e⟩ | ⟨ev, e⟩
  · exact ⟨by rw [qChair, if_pos c1, if_pos c2]; exact ev, e⟩
  · rcases e with ⟨n1, q, e⟩ | ⟨c1, n2, q, e⟩
    · exact ⟨by rw [qChair, if_neg n1]; exact ev, e⟩
    · exact absurd q xn_OA
  · rcases e with ⟨n1, q, e⟩ | ⟨c1, n2, q, e⟩
    · exact absurd q xn_AO
    · exact ⟨by rw [qChair, if_pos c1, if_neg n2]; exact ev, e⟩
theorem w_wobble {M M1 : MM} {s : Nat} {σ : SG} {c w z : Int} (hS : Os M s σ) (e : ((0 ≤ c ∧ c < σ.1 0) ∧ (0 ≤ w ∧ w ≤ 1) ∧ z = sWn σ.1 c ∧ M = M1) ∨ (z = -9999001 ∧ ((¬ ((0 ≤ c ∧ c < σ.1 0)) ∧ xIO = xIO ∧ M = M1) ∨ (((0 ≤ c ∧ c < σ.1 0)) ∧ ¬ (0 ≤ w ∧ w ≤ 1) ∧ xIO = xIA ∧ M = M1))) ∨ (z = -9999002 ∧ ((¬ ((0 ≤ c ∧ c < σ.1 0)) ∧ xIA = xIO ∧ M = M1) ∨ (((0 ≤ c ∧ c < σ.1 0)) ∧ ¬ (0 ≤ w ∧ w ≤ 1) ∧ xIA = xIA ∧ M = M1)))) : z = qWobble σ.1 c w ∧ M = M1 := by
  have hI := hS.1.2
  rcases e with ⟨c1, c2, ev, e⟩ | ⟨ev, e⟩ | ⟨ev, e⟩
  · exact ⟨by rw [qWobble, if_pos c1, if_pos c2]; exact ev, e⟩
  · rcases e with ⟨n1, q, e⟩ | ⟨c1, n2, q, e⟩
    · exact ⟨by rw [qWobble, if_neg n1]; exact ev, e⟩
    · exact absurd q xn_OA
  · rcases e with ⟨n1, q, e⟩ | ⟨c1, n2, q, e⟩
    · exact absurd q xn_AO
    · exact ⟨by rw [qWobble, if_pos c1, if_neg n2]; exact ev, e⟩
theorem w_legOf {M M1 : MM} {s : Nat} {σ : SG} {c k w z : Int} (hS : Os M s σ) (e : (((0 ≤ c ∧ c < σ.1 0) ∧ 0 ≤ k ∧ k < 4) ∧ (0 ≤ w ∧ w ≤ 2) ∧ z = sLegOf σ.1 c k w ∧ M = M1) ∨ (z = -9999001 ∧ ((¬ ((0 ≤ c ∧ c < σ.1 0) ∧ 0 ≤ k ∧ k < 4) ∧ xIO = xIO ∧ M = M1) ∨ (((0 ≤ c ∧ c < σ.1 0) ∧ 0 ≤ k ∧ k < 4) ∧ ¬ (0 ≤ w ∧ w ≤ 2) ∧ xIO = xIA ∧ M = M1))) ∨ (z = -9999002 ∧ ((¬ ((0 ≤ c ∧ c < σ.1 0) ∧ 0 ≤ k ∧ k < 4) ∧ xIA = xIO ∧ M = M1) ∨ (((0 ≤ c ∧ c < σ.1 0) ∧ 0 ≤ k ∧ k < 4) ∧ ¬ (0 ≤ w ∧ w ≤ 2) ∧ xIA = xIA ∧ M = M1)))) : z = qLeg σ.1 c k w ∧ M = M1 := by
  have hI := hS.1.2
  rcases e with ⟨c1, c2, ev, e⟩ | ⟨ev, e⟩ | ⟨ev, e⟩
  · exact ⟨by rw [qLeg, if_pos c1, if_pos c2]; exact ev, e⟩
  · rcases e with ⟨n1, q, e⟩ | ⟨c1, n2, q, e⟩
    · exact ⟨by rw [qLeg, if_neg n1]; exact ev, e⟩
    · exact absurd q xn_OA
  · rcases e with ⟨n1, q, e⟩ | ⟨c1, n2, q, e⟩
    · exact absurd q xn_AO
    · exact ⟨by rw [qLeg, if_pos c1, if_neg n2]; exact ev, e⟩
theorem w_spot {M M1 : MM} {s : Nat} {σ : SG} {fl k z : Int} (hS : Os M s σ) (e : (((0 ≤ fl ∧ fl < σ.1 1) ∧ 0 ≤ k ∧ k < 4) ∧ z = σ.1 (12 + (4 * fl + k)) ∧ M = M1) ∨ (z = -9999001 ∧ (¬ ((0 ≤ fl ∧ fl < σ.1 1) ∧ 0 ≤ k ∧ k < 4) ∧ xIO = xIO ∧ M = M1))) : z = qSpot σ.1 fl k ∧ M = M1 := by
  have hI := hS.1.2
  rcases e with ⟨c1, ev, e⟩ | ⟨ev, e⟩
  · exact ⟨by rw [qSpot, if_pos c1]; exact ev, e⟩
  · rcases e with ⟨n1, q, e⟩
    · exact ⟨by rw [qSpot, if_neg n1]; exact ev, e⟩
theorem w_boundOf {M M1 : MM} {s : Nat} {σ : SG} {gu k z : Int} (hS : Os M s σ) (e : (((0 ≤ gu ∧ gu < 4) ∧ 0 ≤ k ∧ k < 4) ∧ z = σ.1 (28 + (4 * gu + k)) ∧ M = M1) ∨ (z = -9999001 ∧ (¬ ((0 ≤ gu ∧ gu < 4) ∧ 0 ≤ k ∧ k < 4) ∧ xIO = xIO ∧ M = M1))) : z = qBnd σ.1 gu k ∧ M = M1 := by
  have hI := hS.1.2
  rcases e with ⟨c1, ev, e⟩ | ⟨ev, e⟩
  · exact ⟨by rw [qBnd, if_pos c1]; exact ev, e⟩
  · rcases e with ⟨n1, q, e⟩
    · exact ⟨by rw [qBnd, if_neg n1]; exact ev, e⟩
theorem w_setting {M M1 : MM} {s : Nat} {σ : SG} {w z : Int} (hS : Os M s σ) (e : ((0 ≤ w ∧ w ≤ 1) ∧ z = σ.1 (10 + w) ∧ M = M1) ∨ (z = -9999002 ∧ (¬ (0 ≤ w ∧ w ≤ 1) ∧ xIA = xIA ∧ M = M1))) : z = qSet σ.1 w ∧ M = M1 := by
  have hI := hS.1.2
  rcases e with ⟨c1, ev, e⟩ | ⟨ev, e⟩
  · exact ⟨by rw [qSet, if_pos c1]; exact ev, e⟩
  · rcases e with ⟨n1, q, e⟩
    · exact ⟨by rw [qSet, if_neg n1]; exact ev, e⟩
theorem w_bestTurn {M M1 : MM} {s : Nat} {σ : SG} {c fl w z : Int} (hS : Os M s σ) (e : (((0 ≤ c ∧ c < σ.1 0) ∧ (0 ≤ fl ∧ fl < σ.1 1)) ∧ (0 ≤ w ∧ w ≤ 1) ∧ z = (if w = 0 then sBq σ.1 c fl else sWq σ.1 c fl) ∧ M = M1) ∨ (z = -9999001 ∧ ((¬ ((0 ≤ c ∧ c < σ.1 0) ∧ (0 ≤ fl ∧ fl < σ.1 1)) ∧ xIO = xIO ∧ M = M1) ∨ (((0 ≤ c ∧ c < σ.1 0) ∧ (0 ≤ fl ∧ fl < σ.1 1)) ∧ ¬ (0 ≤ w ∧ w ≤ 1) ∧ xIO = xIA ∧ M = M1))) ∨ (z = -9999002 ∧ ((¬ ((0 ≤ c ∧ c < σ.1 0) ∧ (0 ≤ fl ∧ fl < σ.1 1)) ∧ xIA = xIO ∧ M = M1) ∨ (((0 ≤ c ∧ c < σ.1 0) ∧ (0 ≤ fl ∧ fl < σ.1 1)) ∧ ¬ (0 ≤ w ∧ w ≤ 1) ∧ xIA = xIA ∧ M = M1)))) : z = qTurn σ.1 c fl w ∧ M = M1 := by
  have hI := hS.1.2
  rcases e with ⟨c1, c2, ev, e⟩ | ⟨ev, e⟩ | ⟨ev, e⟩
  · exact ⟨by rw [qTurn, if_pos c1, if_pos c2]; exact ev, e⟩
  · rcases e with ⟨n1, q, e⟩ | ⟨c1, n2, q, e⟩
    · exact ⟨by rw [qTurn, if_neg n1]; exact ev, e⟩
    · exact absurd q xn_OA
  · rcases e with ⟨n1, q, e⟩ | ⟨c1, n2, q, e⟩
    · exact absurd q xn_AO
    · exact ⟨by rw [qTurn, if_pos c1, if_neg n2]; exact ev, e⟩
theorem w_bestFloor {M M1 : MM} {s : Nat} {σ : SG} {c z : Int} (hS : Os M s σ) (e : ((0 ≤ c ∧ c < σ.1 0) ∧ z = sBf σ.1 c ∧ M = M1) ∨ (z = -9999001 ∧ (¬ ((0 ≤ c ∧ c < σ.1 0)) ∧ xIO = xIO ∧ M = M1))) : z = qBFloor σ.1 c ∧ M = M1 := by
  have hI := hS.1.2
  rcases e with ⟨c1, ev, e⟩ | ⟨ev, e⟩
  · exact ⟨by rw [qBFloor, if_pos c1]; exact ev, e⟩
  · rcases e with ⟨n1, q, e⟩
    · exact ⟨by rw [qBFloor, if_neg n1]; exact ev, e⟩
theorem w_bestSaw {M M1 : MM} {s : Nat} {σ : SG} {c z : Int} (hS : Os M s σ) (e : ((0 ≤ c ∧ c < σ.1 0) ∧ z = sBs σ.1 c ∧ Oth M M1 (s + 12)) ∨ (z = -9999001 ∧ (¬ ((0 ≤ c ∧ c < σ.1 0)) ∧ xIO = xIO ∧ M = M1))) : z = qBSaw σ.1 c ∧ Sp M s σ M1 := by
  have hI := hS.1.2
  rcases e with ⟨c1, ev, e⟩ | ⟨ev, e⟩
  · exact ⟨by rw [qBSaw, if_pos c1]; exact ev, hS.cpy e⟩
  · rcases e with ⟨n1, q, e⟩
    · exact ⟨by rw [qBSaw, if_neg n1]; exact ev, by rw [← e]; exact ⟨hS, Fr.rf⟩⟩
theorem w_failsIn {M M1 : MM} {s : Nat} {σ : SG} {c wt z : Int} (hS : Os M s σ) (e : ((0 ≤ c ∧ c < σ.1 0) ∧ (1 ≤ wt ∧ wt ≤ 200) ∧ z = sFail σ.1 c wt ∧ Oth M M1 (s + 12)) ∨ (z = -9999001 ∧ ((¬ ((0 ≤ c ∧ c < σ.1 0)) ∧ xIO = xIO ∧ M = M1) ∨ (((0 ≤ c ∧ c < σ.1 0)) ∧ ¬ (1 ≤ wt ∧ wt ≤ 200) ∧ xIO = xIA ∧ M = M1))) ∨ (z = -9999002 ∧ ((¬ ((0 ≤ c ∧ c < σ.1 0)) ∧ xIA = xIO ∧ M = M1) ∨ (((0 ≤ c ∧ c < σ.1 0)) ∧ ¬ (1 ≤ wt ∧ wt ≤ 200) ∧ xIA = xIA ∧ M = M1)))) : z = qFails σ.1 c wt ∧ Sp M s σ M1 := by
  have hI := hS.1.2
  rcases e with ⟨c1, c2, ev, e⟩ | ⟨ev, e⟩ | ⟨ev, e⟩
  · exact ⟨by rw [qFails, if_pos c1, if_pos c2]; exact ev, hS.cpy e⟩
  · rcases e with ⟨n1, q, e⟩ | ⟨c1, n2, q, e⟩
    · exact ⟨by rw [qFails, if_neg n1]; exact ev, by rw [← e]; exact ⟨hS, Fr.rf⟩⟩
    · exact absurd q xn_OA
  · rcases e with ⟨n1, q, e⟩ | ⟨c1, n2, q, e⟩
    · exact absurd q xn_AO
    · exact ⟨by rw [qFails, if_pos c1, if_neg n2]; exact ev, by rw [← e]; exact ⟨hS, Fr.rf⟩⟩
theorem w_simulate {M M1 : MM} {s : Nat} {σ : SG} {sd n z : Int} (hS : Os M s σ) (e : ((1 ≤ n ∧ n ≤ 60) ∧ z = sSim σ.1 sd n.toNat ∧ Oth M M1 (s + 12)) ∨ (z = -9999002 ∧ (¬ (1 ≤ n ∧ n ≤ 60) ∧ xIA = xIA ∧ M = M1))) : z = qSim σ.1 sd n ∧ Sp M s σ M1 := by
  have hI := hS.1.2
  rcases e with ⟨c1, ev, e⟩ | ⟨ev, e⟩
  · exact ⟨by rw [qSim, if_pos c1]; exact ev, hS.cpy e⟩
  · rcases e with ⟨n1, q, e⟩
    · exact ⟨by rw [qSim, if_neg n1]; exact ev, by rw [← e]; exact ⟨hS, Fr.rf⟩⟩
theorem w_chair {M M1 : MM} {s : Nat} {σ : SG} {gu len z : Int} (hS : Os M s σ) (e : ((0 ≤ gu ∧ gu < 4) ∧ (100 ≤ len ∧ len ≤ 900) ∧ (σ.1 0 < 10) ∧ z = σ.1 0 ∧ Act M s σ.1 (fChair σ.1 gu len) M1) ∨ (z = -9999001 ∧ ((¬ (0 ≤ gu ∧ gu < 4) ∧ xIO = xIO ∧ Dft M s σ.1 M1) ∨ ((0 ≤ gu ∧ gu < 4) ∧ ¬ (100 ≤ len ∧ len ≤ 900) ∧ xIO = xIA ∧ Dft M s σ.1 M1) ∨ ((0 ≤ gu ∧ gu < 4) ∧ (100 ≤ len ∧ len ≤ 900) ∧ ¬ (σ.1 0 < 10) ∧ xIO = xIS ∧ Dft M s σ.1 M1))) ∨ (z = -9999002 ∧ ((¬ (0 ≤ gu ∧ gu < 4) ∧ xIA = xIO ∧ Dft M s σ.1 M1) ∨ ((0 ≤ gu ∧ gu < 4) ∧ ¬ (100 ≤ len ∧ len ≤ 900) ∧ xIA = xIA ∧ Dft M s σ.1 M1) ∨ ((0 ≤ gu ∧ gu < 4) ∧ (100 ≤ len ∧ len ≤ 900) ∧ ¬ (σ.1 0 < 10) ∧ xIA = xIS ∧ Dft M s σ.1 M1))) ∨ (z = -9999003 ∧ ((¬ (0 ≤ gu ∧ gu < 4) ∧ xIS = xIO ∧ Dft M s σ.1 M1) ∨ ((0 ≤ gu ∧ gu < 4) ∧ ¬ (100 ≤ len ∧ len ≤ 900) ∧ xIS = xIA ∧ Dft M s σ.1 M1) ∨ ((0 ≤ gu ∧ gu < 4) ∧ (100 ≤ len ∧ len ≤ 900) ∧ ¬ (σ.1 0 < 10) ∧ xIS = xIS ∧ Dft M s σ.1 M1)))) : z = qComes σ.1 gu len ∧ Sp M s (nComes σ gu len) M1 := by
  have hI := hS.1.2
  rcases e with ⟨c1, c2, c3, ev, e⟩ | ⟨ev, e⟩ | ⟨ev, e⟩ | ⟨ev, e⟩
  · refine ⟨by rw [qComes, if_pos c1, if_pos c2, if_pos c3]; exact ev, ?_⟩
    rw [nComes, if_pos ⟨c1, c2, c3⟩]
    exact hS.act (Inv_chair hI c3 c1 c2) e
  · rcases e with ⟨n1, q, e⟩ | ⟨c1, n2, q, e⟩ | ⟨c1, c2, n3, q, e⟩
    · exact ⟨by rw [qComes, if_neg n1]; exact ev, by rw [nComes, if_neg (fun h => n1 h.1)]; exact hS.dft e⟩
    · exact absurd q xn_OA
    · exact absurd q xn_OS
  · rcases e with ⟨n1, q, e⟩ | ⟨c1, n2, q, e⟩ | ⟨c1, c2, n3, q, e⟩
    · exact absurd q xn_AO
    · exact ⟨by rw [qComes, if_pos c1, if_neg n2]; exact ev, by rw [nComes, if_neg (fun h => n2 h.2.1)]; exact hS.dft e⟩
    · exact absurd q xn_AS
  · rcases e with ⟨n1, q, e⟩ | ⟨c1, n2, q, e⟩ | ⟨c1, c2, n3, q, e⟩
    · exact absurd q xn_SO
    · exact absurd q xn_SA
    · exact ⟨by rw [qComes, if_pos c1, if_pos c2, if_neg n3]; exact ev, by rw [nComes, if_neg (fun h => n3 h.2.2)]; exact hS.dft e⟩
theorem w_floor {M M1 : MM} {s : Nat} {σ : SG} {x1 x2 x3 x4 z : Int} (hS : Os M s σ) (e : (((0 ≤ x1 ∧ x1 ≤ 50) ∧ (0 ≤ x2 ∧ x2 ≤ 50) ∧ (0 ≤ x3 ∧ x3 ≤ 50) ∧ (0 ≤ x4 ∧ x4 ≤ 50)) ∧ (σ.1 1 < 4) ∧ z = σ.1 1 ∧ Act M s σ.1 (fFloor σ.1 x1 x2 x3 x4) M1) ∨ (z = -9999002 ∧ ((¬ ((0 ≤ x1 ∧ x1 ≤ 50) ∧ (0 ≤ x2 ∧ x2 ≤ 50) ∧ (0 ≤ x3 ∧ x3 ≤ 50) ∧ (0 ≤ x4 ∧ x4 ≤ 50)) ∧ xIA = xIA ∧ Dft M s σ.1 M1) ∨ (((0 ≤ x1 ∧ x1 ≤ 50) ∧ (0 ≤ x2 ∧ x2 ≤ 50) ∧ (0 ≤ x3 ∧ x3 ≤ 50) ∧ (0 ≤ x4 ∧ x4 ≤ 50)) ∧ ¬ (σ.1 1 < 4) ∧ xIA = xIS ∧ Dft M s σ.1 M1))) ∨ (z = -9999003 ∧ ((¬ ((0 ≤ x1 ∧ x1 ≤ 50) ∧ (0 ≤ x2 ∧ x2 ≤ 50) ∧ (0 ≤ x3 ∧ x3 ≤ 50) ∧ (0 ≤ x4 ∧ x4 ≤ 50)) ∧ xIS = xIA ∧ Dft M s σ.1 M1) ∨ (((0 ≤ x1 ∧ x1 ≤ 50) ∧ (0 ≤ x2 ∧ x2 ≤ 50) ∧ (0 ≤ x3 ∧ x3 ≤ 50) ∧ (0 ≤ x4 ∧ x4 ≤ 50)) ∧ ¬ (σ.1 1 < 4) ∧ xIS = xIS ∧ Dft M s σ.1 M1)))) : z = qLay σ.1 x1 x2 x3 x4 ∧ Sp M s (nLay σ x1 x2 x3 x4) M1 := by
  have hI := hS.1.2
  rcases e with ⟨c1, c2, ev, e⟩ | ⟨ev, e⟩ | ⟨ev, e⟩
  · refine ⟨by rw [qLay, if_pos c1, if_pos c2]; exact ev, ?_⟩
    rw [nLay, if_pos ⟨c1, c2⟩]
    exact hS.act (Inv_floor hI c2 c1.1 c1.2.1 c1.2.2.1 c1.2.2.2) e
  · rcases e with ⟨n1, q, e⟩ | ⟨c1, n2, q, e⟩
    · exact ⟨by rw [qLay, if_neg n1]; exact ev, by rw [nLay, if_neg (fun h => n1 h.1)]; exact hS.dft e⟩
    · exact absurd q xn_AS
  · rcases e with ⟨n1, q, e⟩ | ⟨c1, n2, q, e⟩
    · exact absurd q xn_SA
    · exact ⟨by rw [qLay, if_pos c1, if_neg n2]; exact ev, by rw [nLay, if_neg (fun h => n2 h.2)]; exact hS.dft e⟩
theorem w_level {M M1 : MM} {s : Nat} {σ : SG} {fl k v z : Int} (hS : Os M s σ) (e : (((0 ≤ fl ∧ fl < σ.1 1) ∧ 0 ≤ k ∧ k < 4) ∧ (0 ≤ v ∧ v ≤ 50) ∧ z = σ.1 (12 + (4 * fl + k)) ∧ Act M s σ.1 (fLevel σ.1 fl k v) M1) ∨ (z = -9999001 ∧ ((¬ ((0 ≤ fl ∧ fl < σ.1 1) ∧ 0 ≤ k ∧ k < 4) ∧ xIO = xIO ∧ Dft M s σ.1 M1) ∨ (((0 ≤ fl ∧ fl < σ.1 1) ∧ 0 ≤ k ∧ k < 4) ∧ ¬ (0 ≤ v ∧ v ≤ 50) ∧ xIO = xIA ∧ Dft M s σ.1 M1))) ∨ (z = -9999002 ∧ ((¬ ((0 ≤ fl ∧ fl < σ.1 1) ∧ 0 ≤ k ∧ k < 4) ∧ xIA = xIO ∧ Dft M s σ.1 M1) ∨ (((0 ≤ fl ∧ fl < σ.1 1) ∧ 0 ≤ k ∧ k < 4) ∧ ¬ (0 ≤ v ∧ v ≤ 50) ∧ xIA = xIA ∧ Dft M s σ.1 M1)))) : z = qLevel σ.1 fl k v ∧ Sp M s (nLevel σ fl k v) M1 := by
  have hI := hS.1.2
  rcases e with ⟨c1, c2, ev, e⟩ | ⟨ev, e⟩ | ⟨ev, e⟩
  · refine ⟨by rw [qLevel, if_pos c1, if_pos c2]; exact ev, ?_⟩
    rw [nLevel, if_pos ⟨c1, c2⟩]
    exact hS.act (Inv_level hI (by have := hI.2.1; omega) c1.2 c2) e
  · rcases e with ⟨n1, q, e⟩ | ⟨c1, n2, q, e⟩
    · exact ⟨by rw [qLevel, if_neg n1]; exact ev, by rw [nLevel, if_neg (fun h => n1 h.1)]; exact hS.dft e⟩
    · exact absurd q xn_OA
  · rcases e with ⟨n1, q, e⟩ | ⟨c1, n2, q, e⟩
    · exact absurd q xn_AO
    · exact ⟨by rw [qLevel, if_pos c1, if_neg n2]; exact ev, by rw [nLevel, if_neg (fun h => n2 h.2)]; exact hS.dft e⟩
theorem w_bring {M M1 : MM} {s : Nat} {σ : SG} {c fl q z : Int} (hS : Os M s σ) (e : (((0 ≤ c ∧ c < σ.1 0) ∧ (0 ≤ fl ∧ fl < σ.1 1)) ∧ (0 ≤ q ∧ q < 4) ∧ z = sWob σ.1 c fl q ∧ Act M s σ.1 (fBring σ.1 c fl q) M1) ∨ (z = -9999001 ∧ ((¬ ((0 ≤ c ∧ c < σ.1 0) ∧ (0 ≤ fl ∧ fl < σ.1 1)) ∧ xIO = xIO ∧ Dft M s σ.1 M1) ∨ (((0 ≤ c ∧ c < σ.1 0) ∧ (0 ≤ fl ∧ fl < σ.1 1)) ∧ ¬ (0 ≤ q ∧ q < 4) ∧ xIO = xIA ∧ Dft M s σ.1 M1))) ∨ (z = -9999002 ∧ ((¬ ((0 ≤ c ∧ c < σ.1 0) ∧ (0 ≤ fl ∧ fl < σ.1 1)) ∧ xIA = xIO ∧ Dft M s σ.1 M1) ∨ (((0 ≤ c ∧ c < σ.1 0) ∧ (0 ≤ fl ∧ fl < σ.1 1)) ∧ ¬ (0 ≤ q ∧ q < 4) ∧ xIA = xIA ∧ Dft M s σ.1 M1)))) : z = qBring σ.1 c fl q ∧ Sp M s (nBring σ c fl q) M1 := by
  have hI := hS.1.2
  rcases e with ⟨c1, c2, ev, e⟩ | ⟨ev, e⟩ | ⟨ev, e⟩
  · refine ⟨by rw [qBring, if_pos c1, if_pos c2]; exact ev, ?_⟩
    rw [nBring, if_pos ⟨c1, c2⟩]
    exact hS.act (Inv_bring hI c1.1.1 c1.2 c2) e
  · rcases e with ⟨n1, q, e⟩ | ⟨c1, n2, q, e⟩
    · exact ⟨by rw [qBring, if_neg n1]; exact ev, by rw [nBring, if_neg (fun h => n1 h.1)]; exact hS.dft e⟩
    · exact absurd q xn_OA
  · rcases e with ⟨n1, q, e⟩ | ⟨c1, n2, q, e⟩
    · exact absurd q xn_AO
    · exact ⟨by rw [qBring, if_pos c1, if_neg n2]; exact ev, by rw [nBring, if_neg (fun h => n2 h.2)]; exact hS.dft e⟩
theorem w_saw {M M1 : MM} {s : Nat} {σ : SG} {c k n z : Int} (hS : Os M s σ) (e : (((0 ≤ c ∧ c < σ.1 0) ∧ 0 ≤ k ∧ k < 4) ∧ (1 ≤ n ∧ n ≤ 800) ∧ (100 ≤ σ.1 (49 + 9 * c + k) - n) ∧ z = σ.1 (49 + 9 * c + k) - n ∧ Act M s σ.1 (fSaw σ.1 c k n) M1) ∨ (z = -9999001 ∧ ((¬ ((0 ≤ c ∧ c < σ.1 0) ∧ 0 ≤ k ∧ k < 4) ∧ xIO = xIO ∧ Dft M s σ.1 M1) ∨ (((0 ≤ c ∧ c < σ.1 0) ∧ 0 ≤ k ∧ k < 4) ∧ ¬ (1 ≤ n ∧ n ≤ 800) ∧ xIO = xIA ∧ Dft M s σ.1 M1) ∨ (((0 ≤ c ∧ c < σ.1 0) ∧ 0 ≤ k ∧ k < 4) ∧ (1 ≤ n ∧ n ≤ 800) ∧ ¬ (100 ≤ σ.1 (49 + 9 * c + k) - n) ∧ xIO = xIS ∧ Dft M s σ.1 M1))) ∨ (z = -9999002 ∧ ((¬ ((0 ≤ c ∧ c < σ.1 0) ∧ 0 ≤ k ∧ k < 4) ∧ xIA = xIO ∧ Dft M s σ.1 M1) ∨ (((0 ≤ c ∧ c < σ.1 0) ∧ 0 ≤ k ∧ k < 4) ∧ ¬ (1 ≤ n ∧ n ≤ 800) ∧ xIA = xIA ∧ Dft M s σ.1 M1) ∨ (((0 ≤ c ∧ c < σ.1 0) ∧ 0 ≤ k ∧ k < 4) ∧ (1 ≤ n ∧ n ≤ 800) ∧ ¬ (100 ≤ σ.1 (49 + 9 * c + k) - n) ∧ xIA = xIS ∧ Dft M s σ.1 M1))) ∨ (z = -9999003 ∧ ((¬ ((0 ≤ c ∧ c < σ.1 0) ∧ 0 ≤ k ∧ k < 4) ∧ xIS = xIO ∧ Dft M s σ.1 M1) ∨ (((0 ≤ c ∧ c < σ.1 0) ∧ 0 ≤ k ∧ k < 4) ∧ ¬ (1 ≤ n ∧ n ≤ 800) ∧ xIS = xIA ∧ Dft M s σ.1 M1) ∨ (((0 ≤ c ∧ c < σ.1 0) ∧ 0 ≤ k ∧ k < 4) ∧ (1 ≤ n ∧ n ≤ 800) ∧ ¬ (100 ≤ σ.1 (49 + 9 * c + k) - n) ∧ xIS = xIS ∧ Dft M s σ.1 M1)))) : z = qSaw σ.1 c k n ∧ Sp M s (nSaw σ c k n) M1 := by
  have hI := hS.1.2
  rcases e with ⟨c1, c2, c3, ev, e⟩ | ⟨ev, e⟩ | ⟨ev, e⟩ | ⟨ev, e⟩
  · refine ⟨by rw [qSaw, if_pos c1, if_pos c2, if_pos c3]; exact ev, ?_⟩
    rw [nSaw, if_pos ⟨c1, c2, c3⟩]
    have hl9 := (hI.2.2.2.2.2.2 c c1.1.1 c1.1.2).2.2.2.2 k c1.2.1 c1.2.2
    exact hS.act (Inv_saw hI c1.1.1 c1.2 (by omega)) e
  · rcases e with ⟨n1, q, e⟩ | ⟨c1, n2, q, e⟩ | ⟨c1, c2, n3, q, e⟩
    · exact ⟨by rw [qSaw, if_neg n1]; exact ev, by rw [nSaw, if_neg (fun h => n1 h.1)]; exact hS.dft e⟩
    · exact absurd q xn_OA
    · exact absurd q xn_OS
  · rcases e with ⟨n1, q, e⟩ | ⟨c1, n2, q, e⟩ | ⟨c1, c2, n3, q, e⟩
    · exact absurd q xn_AO
    · exact ⟨by rw [qSaw, if_pos c1, if_neg n2]; exact ev, by rw [nSaw, if_neg (fun h => n2 h.2.1)]; exact hS.dft e⟩
    · exact absurd q xn_AS
  · rcases e with ⟨n1, q, e⟩ | ⟨c1, n2, q, e⟩ | ⟨c1, c2, n3, q, e⟩
    · exact absurd q xn_SO
    · exact absurd q xn_SA
    · exact ⟨by rw [qSaw, if_pos c1, if_pos c2, if_neg n3]; exact ev, by rw [nSaw, if_neg (fun h => n3 h.2.2)]; exact hS.dft e⟩
theorem w_shim {M M1 : MM} {s : Nat} {σ : SG} {c k n z : Int} (hS : Os M s σ) (e : (((0 ≤ c ∧ c < σ.1 0) ∧ 0 ≤ k ∧ k < 4) ∧ (1 ≤ n ∧ n ≤ 99) ∧ (σ.1 (49 + 9 * c + k) + n ≤ 900) ∧ z = σ.1 (49 + 9 * c + k) + n ∧ Act M s σ.1 (fShim σ.1 c k n) M1) ∨ (z = -9999001 ∧ ((¬ ((0 ≤ c ∧ c < σ.1 0) ∧ 0 ≤ k ∧ k < 4) ∧ xIO = xIO ∧ Dft M s σ.1 M1) ∨ (((0 ≤ c ∧ c < σ.1 0) ∧ 0 ≤ k ∧ k < 4) ∧ ¬ (1 ≤ n ∧ n ≤ 99) ∧ xIO = xIA ∧ Dft M s σ.1 M1) ∨ (((0 ≤ c ∧ c < σ.1 0) ∧ 0 ≤ k ∧ k < 4) ∧ (1 ≤ n ∧ n ≤ 99) ∧ ¬ (σ.1 (49 + 9 * c + k) + n ≤ 900) ∧ xIO = xIS ∧ Dft M s σ.1 M1))) ∨ (z = -9999002 ∧ ((¬ ((0 ≤ c ∧ c < σ.1 0) ∧ 0 ≤ k ∧ k < 4) ∧ xIA = xIO ∧ Dft M s σ.1 M1) ∨ (((0 ≤ c ∧ c < σ.1 0) ∧ 0 ≤ k ∧ k < 4) ∧ ¬ (1 ≤ n ∧ n ≤ 99) ∧ xIA = xIA ∧ Dft M s σ.1 M1) ∨ (((0 ≤ c ∧ c < σ.1 0) ∧ 0 ≤ k ∧ k < 4) ∧ (1 ≤ n ∧ n ≤ 99) ∧ ¬ (σ.1 (49 + 9 * c + k) + n ≤ 900) ∧ xIA = xIS ∧ Dft M s σ.1 M1))) ∨ (z = -9999003 ∧ ((¬ ((0 ≤ c ∧ c < σ.1 0) ∧ 0 ≤ k ∧ k < 4) ∧ xIS = xIO ∧ Dft M s σ.1 M1) ∨ (((0 ≤ c ∧ c < σ.1 0) ∧ 0 ≤ k ∧ k < 4) ∧ ¬ (1 ≤ n ∧ n ≤ 99) ∧ xIS = xIA ∧ Dft M s σ.1 M1) ∨ (((0 ≤ c ∧ c < σ.1 0) ∧ 0 ≤ k ∧ k < 4) ∧ (1 ≤ n ∧ n ≤ 99) ∧ ¬ (σ.1 (49 + 9 * c + k) + n ≤ 900) ∧ xIS = xIS ∧ Dft M s σ.1 M1)))) : z = qShim σ.1 c k n ∧ Sp M s (nShim σ c k n) M1 := by
  have hI := hS.1.2
  rcases e with ⟨c1, c2, c3, ev, e⟩ | ⟨ev, e⟩ | ⟨ev, e⟩ | ⟨ev, e⟩
  · refine ⟨by rw [qShim, if_pos c1, if_pos c2, if_pos c3]; exact ev, ?_⟩
    rw [nShim, if_pos ⟨c1, c2, c3⟩]
    have hl9 := (hI.2.2.2.2.2.2 c c1.1.1 c1.1.2).2.2.2.2 k c1.2.1 c1.2.2
    exact hS.act (Inv_shim hI c1.1.1 c1.2 (by omega)) e
  · rcases e with ⟨n1, q, e⟩ | ⟨c1, n2, q, e⟩ | ⟨c1, c2, n3, q, e⟩
    · exact ⟨by rw [qShim, if_neg n1]; exact ev, by rw [nShim, if_neg (fun h => n1 h.1)]; exact hS.dft e⟩
    · exact absurd q xn_OA
    · exact absurd q xn_OS
  · rcases e with ⟨n1, q, e⟩ | ⟨c1, n2, q, e⟩ | ⟨c1, c2, n3, q, e⟩
    · exact absurd q xn_AO
    · exact ⟨by rw [qShim, if_pos c1, if_neg n2]; exact ev, by rw [nShim, if_neg (fun h => n2 h.2.1)]; exact hS.dft e⟩
    · exact absurd q xn_AS
  · rcases e with ⟨n1, q, e⟩ | ⟨c1, n2, q, e⟩ | ⟨c1, c2, n3, q, e⟩
    · exact absurd q xn_SO
    · exact absurd q xn_SA
    · exact ⟨by rw [qShim, if_pos c1, if_pos c2, if_neg n3]; exact ev, by rw [nShim, if_neg (fun h => n3 h.2.2)]; exact hS.dft e⟩
theorem w_test {M M1 : MM} {s : Nat} {σ : SG} {c z : Int} (hS : Os M s σ) (e : (((0 ≤ c ∧ c < σ.1 0)) ∧ z = sWhy σ.1 c ∧ Act M s σ.1 (fTest σ.1 c) M1) ∨ (z = -9999001 ∧ (¬ ((0 ≤ c ∧ c < σ.1 0)) ∧ xIO = xIO ∧ Dft M s σ.1 M1))) : z = qTest σ.1 c ∧ Sp M s (nTest σ c) M1 := by
  have hI := hS.1.2
  rcases e with ⟨c1, ev, e⟩ | ⟨ev, e⟩
  · refine ⟨by rw [qTest, if_pos c1]; exact ev, ?_⟩
    rw [nTest, if_pos c1]
    exact hS.act (Inv_test hI c1.1) e
  · rcases e with ⟨n1, q, e⟩
    · exact ⟨by rw [qTest, if_neg n1]; exact ev, by rw [nTest, if_neg (fun h => n1 h)]; exact hS.dft e⟩
theorem w_sit {M M1 : MM} {s : Nat} {σ : SG} {c wt z : Int} (hS : Os M s σ) (e : (((0 ≤ c ∧ c < σ.1 0)) ∧ (1 ≤ wt ∧ wt ≤ 200) ∧ z = sSitN σ.1 c (wt / σ.1 11) (sIdle σ.1 c) 4 ∧ Act M s σ.1 (fSit σ.1 c wt) M1) ∨ (z = -9999001 ∧ ((¬ ((0 ≤ c ∧ c < σ.1 0)) ∧ xIO = xIO ∧ Dft M s σ.1 M1) ∨ (((0 ≤ c ∧ c < σ.1 0)) ∧ ¬ (1 ≤ wt ∧ wt ≤ 200) ∧ xIO = xIA ∧ Dft M s σ.1 M1))) ∨ (z = -9999002 ∧ ((¬ ((0 ≤ c ∧ c < σ.1 0)) ∧ xIA = xIO ∧ Dft M s σ.1 M1) ∨ (((0 ≤ c ∧ c < σ.1 0)) ∧ ¬ (1 ≤ wt ∧ wt ≤ 200) ∧ xIA = xIA ∧ Dft M s σ.1 M1)))) : z = qSit σ.1 c wt ∧ Sp M s (nSit σ c wt) M1 := by
  have hI := hS.1.2
  rcases e with ⟨c1, c2, ev, e⟩ | ⟨ev, e⟩ | ⟨ev, e⟩
  · refine ⟨by rw [qSit, if_pos c1, if_pos c2]; exact ev, ?_⟩
    rw [nSit, if_pos ⟨c1, c2⟩]
    exact hS.act (Inv_sit hI c1 (by omega)) e
  · rcases e with ⟨n1, q, e⟩ | ⟨c1, n2, q, e⟩
    · exact ⟨by rw [qSit, if_neg n1]; exact ev, by rw [nSit, if_neg (fun h => n1 h.1)]; exact hS.dft e⟩
    · exact absurd q xn_OA
  · rcases e with ⟨n1, q, e⟩ | ⟨c1, n2, q, e⟩
    · exact absurd q xn_AO
    · exact ⟨by rw [qSit, if_pos c1, if_neg n2]; exact ev, by rw [nSit, if_neg (fun h => n2 h.2)]; exact hS.dft e⟩
theorem w_bound {M M1 : MM} {s : Nat} {σ : SG} {gu k v z : Int} (hS : Os M s σ) (e : (((0 ≤ gu ∧ gu < 4) ∧ 0 ≤ k ∧ k < 4) ∧ ((k < 2 ∧ 100 ≤ v ∧ v ≤ 900 ∨ k = 2 ∧ 0 ≤ v ∧ v ≤ 100 ∨ k = 3 ∧ 0 ≤ v ∧ v ≤ 200)) ∧ z = fBound σ.1 gu k v 4 - σ.1 4 ∧ Act M s σ.1 (fBound σ.1 gu k v) M1) ∨ (z = -9999001 ∧ ((¬ ((0 ≤ gu ∧ gu < 4) ∧ 0 ≤ k ∧ k < 4) ∧ xIO = xIO ∧ Dft M s σ.1 M1) ∨ (((0 ≤ gu ∧ gu < 4) ∧ 0 ≤ k ∧ k < 4) ∧ ¬ ((k < 2 ∧ 100 ≤ v ∧ v ≤ 900 ∨ k = 2 ∧ 0 ≤ v ∧ v ≤ 100 ∨ k = 3 ∧ 0 ≤ v ∧ v ≤ 200)) ∧ xIO = xIA ∧ Dft M s σ.1 M1))) ∨ (z = -9999002 ∧ ((¬ ((0 ≤ gu ∧ gu < 4) ∧ 0 ≤ k ∧ k < 4) ∧ xIA = xIO ∧ Dft M s σ.1 M1) ∨ (((0 ≤ gu ∧ gu < 4) ∧ 0 ≤ k ∧ k < 4) ∧ ¬ ((k < 2 ∧ 100 ≤ v ∧ v ≤ 900 ∨ k = 2 ∧ 0 ≤ v ∧ v ≤ 100 ∨ k = 3 ∧ 0 ≤ v ∧ v ≤ 200)) ∧ xIA = xIA ∧ Dft M s σ.1 M1)))) : z = qBound σ.1 gu k v ∧ Sp M s (nBound σ gu k v) M1 := by
  have hI := hS.1.2
  rcases e with ⟨c1, c2, ev, e⟩ | ⟨ev, e⟩ | ⟨ev, e⟩
  · refine ⟨by rw [qBound, if_pos c1, if_pos c2]; exact ev, ?_⟩
    rw [nBound, if_pos ⟨c1, c2⟩]
    exact hS.act (Inv_bound hI c1.1 c1.2 (by omega)) e
  · rcases e with ⟨n1, q, e⟩ | ⟨c1, n2, q, e⟩
    · exact ⟨by rw [qBound, if_neg n1]; exact ev, by rw [nBound, if_neg (fun h => n1 h.1)]; exact hS.dft e⟩
    · exact absurd q xn_OA
  · rcases e with ⟨n1, q, e⟩ | ⟨c1, n2, q, e⟩
    · exact absurd q xn_AO
    · exact ⟨by rw [qBound, if_pos c1, if_neg n2]; exact ev, by rw [nBound, if_neg (fun h => n2 h.2)]; exact hS.dft e⟩
theorem w_set {M M1 : MM} {s : Nat} {σ : SG} {wh v z : Int} (hS : Os M s σ) (e : (((wh = 0 ∧ 0 ≤ v ∧ v ≤ 50 ∨ wh = 1 ∧ 1 ≤ v ∧ v ≤ 200)) ∧ z = σ.1 (10 + wh) ∧ Act M s σ.1 (fSet σ.1 wh v) M1) ∨ (z = -9999002 ∧ (¬ ((wh = 0 ∧ 0 ≤ v ∧ v ≤ 50 ∨ wh = 1 ∧ 1 ≤ v ∧ v ≤ 200)) ∧ xIA = xIA ∧ Dft M s σ.1 M1))) : z = qPut σ.1 wh v ∧ Sp M s (nPut σ wh v) M1 := by
  have hI := hS.1.2
  rcases e with ⟨c1, ev, e⟩ | ⟨ev, e⟩
  · refine ⟨by rw [qPut, if_pos c1]; exact ev, ?_⟩
    rw [nPut, if_pos c1]
    exact hS.act (Inv_set hI c1) e
  · rcases e with ⟨n1, q, e⟩
    · exact ⟨by rw [qPut, if_neg n1]; exact ev, by rw [nPut, if_neg (fun h => n1 h)]; exact hS.dft e⟩
theorem Os.len {M : MM} {s : Nat} {σ : SG} (h : Os M s σ) : 0 ≤ M (s + 23) 2 ∧ M (s + 23) 2 ≤ 14 := by
  have h2 := h.2.1.2.1
  have h3 := h.2.1.2.2.1
  omega
theorem Os.pB {M : MM} {s : Nat} {σ : SG} (h : Os M s σ) : M (s + 23) 2 ≠ 0 → Off M (gO (s + 23) ((M (s + 23) 1 + 14) % 15).toNat) (nUndo σ).1 ∧ Inv (nUndo σ).1 := by
  intro hz
  obtain ⟨-, ⟨-, h2, -, h4⟩, -⟩ := h
  unfold nUndo
  cases hu : σ.2.1 with
  | nil => rw [hu] at h2; exact absurd h2 hz
  | cons u r =>
    have := h4 0 u (by rw [hu]; rfl)
    rw [show M (s + 23) 1 + 14 - ((0 : Nat) : Int) = M (s + 23) 1 + 14 by omega] at this
    exact this
theorem w_undo {M M1 : MM} {s : Nat} {σ : SG} {z : Int} (hS : Os M s σ) (e : ((M (s + 23) 2 ≠ 0) ∧ z = M (s + 23) 2 - 1 ∧ Off M1 (s + 1) (nUndo σ).1 ∧ Oth (wr (wr M (s + 23) 2 (M (s + 23) 2 - 1)) (s + 23) 1 ((M (s + 23) 1 + 14) % 15)) M1 (s + 1)) ∨ (z = -9999003 ∧ (¬ (M (s + 23) 2 ≠ 0) ∧ xIS = xIS ∧ M = M1))) : z = qUndo σ ∧ Sp M s (nUndo σ) M1 := by
  have h2 := hS.2.1.2.1
  unfold qUndo nUndo at *
  cases hu : σ.2.1 with
  | nil =>
    rw [hu] at h2
    rcases e with ⟨c1, -⟩ | ⟨ev, -, -, e⟩
    · exact absurd h2 c1
    · rw [← e]
      exact ⟨ev, hS, Fr.rf⟩
  | cons u r =>
    rw [hu] at h2 e
    rw [show (u :: r).length = r.length + 1 from rfl] at h2
    rcases e with ⟨-, ev, eo, et⟩ | ⟨-, n1, -⟩
    · refine ⟨?_, hS.undo hu eo et⟩
      show z = (r.length : Int)
      omega
    · exact absurd (by omega) n1
theorem w_save {M M1 : MM} {s : Nat} {σ : SG} {k z : Int} (hS : Os M s σ) (e : ((0 ≤ k ∧ k ≤ 1) ∧ z = sStamped σ.1 ∧ ((k = 0 ∧ Sav M (s + 190) σ.1 M1) ∨ (k = 1 ∧ Sav M (s + 202) σ.1 M1))) ∨ (z = -9999001 ∧ (¬ (0 ≤ k ∧ k ≤ 1) ∧ xIO = xIO ∧ M = M1))) : z = qKeep σ.1 k ∧ Sp M s (nKeep σ k) M1 := by
  rcases e with ⟨c1, ev, e⟩ | ⟨ev, n1, -, e⟩
  · rw [qKeep, nKeep, if_pos c1, if_pos c1]
    refine ⟨ev, ?_⟩
    rcases e with ⟨rfl, e⟩ | ⟨rfl, e⟩
    · have := hS.save (Or.inl rfl) e
      rw [if_pos rfl, if_pos rfl] at this ⊢
      exact this
    · have := hS.save (Or.inr rfl) e
      rw [if_neg (by decide), if_neg (by decide)] at this ⊢
      exact this
  · rw [qKeep, nKeep, if_neg n1, if_neg n1, ← e]
    exact ⟨ev, hS, Fr.rf⟩
def gOf (x : Option (Int → Int)) : Int → Int := x.getD (fun _ => 0)
theorem SlS.z {M : MM} {a : Nat} {x : Option (Int → Int)} (h : SlS M a x) : (0 ≤ M a 1 ∧ M a 1 ≤ 1) ∧ (M a 1 ≠ 0 → Off M (a + 1) (gOf x) ∧ Inv (gOf x)) ∧ (M a 1 = 0 ↔ x = none) := by
  rcases h with ⟨rfl, h2⟩ | ⟨g, rfl, h2, h3, h4⟩
  · exact ⟨by omega, fun q => absurd h2 q, fun _ => rfl, fun _ => h2⟩
  · exact ⟨by omega, fun _ => ⟨h3, h4⟩, fun q => by omega, fun q => by cases q⟩
theorem w_restore {M M1 : MM} {s : Nat} {σ : SG} {k z : Int} (hS : Os M s σ) (e : ((0 ≤ k ∧ k ≤ 1) ∧ ((k = 0 ∧ M (s + 190) 1 ≠ 0 ∧ z = sStamped (gOf σ.2.2.1) ∧ Rst M s (gOf σ.2.2.1) M1) ∨ (k = 1 ∧ M (s + 202) 1 ≠ 0 ∧ z = sStamped (gOf σ.2.2.2) ∧ Rst M s (gOf σ.2.2.2) M1))) ∨ (z = -9999001 ∧ ((¬ (0 ≤ k ∧ k ≤ 1) ∧ xIO = xIO ∧ M = M1) ∨ ((0 ≤ k ∧ k ≤ 1) ∧ (k = 0 → M (s + 190) 1 = 0) ∧ (k = 1 → M (s + 202) 1 = 0) ∧ xIO = xIS ∧ M = M1))) ∨ (z = -9999003 ∧ ((¬ (0 ≤ k ∧ k ≤ 1) ∧ xIS = xIO ∧ M = M1) ∨ ((0 ≤ k ∧ k ≤ 1) ∧ (k = 0 → M (s + 190) 1 = 0) ∧ (k = 1 → M (s + 202) 1 = 0) ∧ xIS = xIS ∧ M = M1)))) : z = qBack σ k ∧ Sp M s (nBack σ k) M1 := by
  obtain ⟨z0, j0, i0⟩ := hS.2.2.1.1.z
  obtain ⟨z1, j1, i1⟩ := hS.2.2.1.2.z
  rcases e with ⟨c1, e⟩ | ⟨ev, e⟩ | ⟨ev, e⟩
  · rw [qBack, nBack, if_pos c1, if_pos c1]
    rcases e with ⟨rfl, h9, ev, e⟩ | ⟨rfl, h9, ev, e⟩
    · rw [slotOf, if_pos rfl]
      cases hx : σ.2.2.1 with
      | none => exact absurd (i0.mpr hx) h9
      | some g =>
        have hg : gOf σ.2.2.1 = g := by rw [hx]; rfl
        rw [hg] at ev e j0
        exact ⟨ev, hS.back (j0 h9).2 e⟩
    · rw [slotOf, if_neg (by decide)]
      cases hx : σ.2.2.2 with
      | none => exact absurd (i1.mpr hx) h9
      | some g =>
        have hg : gOf σ.2.2.2 = g := by rw [hx]; rfl
        rw [hg] at ev e j1
        exact ⟨ev, hS.back (j1 h9).2 e⟩
  · rcases e with ⟨n1, -, e⟩ | ⟨-, -, -, q, -⟩
    · rw [qBack, nBack, if_neg n1, if_neg n1, ← e]
      exact ⟨ev, hS, Fr.rf⟩
    · exact absurd q xn_OS
  · rcases e with ⟨-, q, -⟩ | ⟨c1, n2, n3, -, e⟩
    · exact absurd q xn_SO
    · rw [qBack, nBack, if_pos c1, if_pos c1, ← e]
      rcases (by omega : k = 0 ∨ k = 1) with rfl | rfl
      · rw [slotOf, if_pos rfl, i0.mp (n2 rfl)]
        exact ⟨ev, hS, Fr.rf⟩
      · rw [slotOf, if_neg (by decide), i1.mp (n3 rfl)]
        exact ⟨ev, hS, Fr.rf⟩
