/-! ===== a run's state ===== -/
/-- elements, how many; works, cells, asks, fault, spent; source's place, piled; by level: passed, begun, before, pile -/
abbrev sT : Type := (Nat → sE) × Nat × Nat × Nat × Nat × Nat × Bool × Nat × Nat × (Nat → Nat) × (Nat → Bool) × (Nat → Option Nat) × (Nat → List Nat)
def tE (T : sT) : Nat → sE := T.1
def tN (T : sT) : Nat := T.2.1
def tW (T : sT) : Nat := T.2.2.1
def tC (T : sT) : Nat := T.2.2.2.1
def tA (T : sT) : Nat := T.2.2.2.2.1
def tF (T : sT) : Nat := T.2.2.2.2.2.1
def tS (T : sT) : Bool := T.2.2.2.2.2.2.1
def tO (T : sT) : Nat := T.2.2.2.2.2.2.2.1
def tP (T : sT) : Nat := T.2.2.2.2.2.2.2.2.1
def tK (T : sT) : Nat → Nat := T.2.2.2.2.2.2.2.2.2.1
def tB (T : sT) : Nat → Bool := T.2.2.2.2.2.2.2.2.2.2.1
def tQ (T : sT) : Nat → Option Nat := T.2.2.2.2.2.2.2.2.2.2.2.1
def tL (T : sT) : Nat → List Nat := T.2.2.2.2.2.2.2.2.2.2.2.2
def sAk (T : sT)  : sT := (tE T, tN T, tW T, tC T, tA T + 1, tF T, tS T, tO T, tP T, tK T, tB T, tQ T, tL T)
theorem tE_sAk (T : sT)  : tE (sAk T) = tE T := rfl
theorem tN_sAk (T : sT)  : tN (sAk T) = tN T := rfl
theorem tW_sAk (T : sT)  : tW (sAk T) = tW T := rfl
theorem tC_sAk (T : sT)  : tC (sAk T) = tC T := rfl
theorem tA_sAk (T : sT)  : tA (sAk T) = tA T + 1 := rfl
theorem tF_sAk (T : sT)  : tF (sAk T) = tF T := rfl
theorem tS_sAk (T : sT)  : tS (sAk T) = tS T := rfl
theorem tO_sAk (T : sT)  : tO (sAk T) = tO T := rfl
theorem tP_sAk (T : sT)  : tP (sAk T) = tP T := rfl
theorem tK_sAk (T : sT)  : tK (sAk T) = tK T := rfl
theorem tB_sAk (T : sT)  : tB (sAk T) = tB T := rfl
theorem tQ_sAk (T : sT)  : tQ (sAk T) = tQ T := rfl
theorem tL_sAk (T : sT)  : tL (sAk T) = tL T := rfl
def sSp (T : sT)  : sT := (tE T, tN T, tW T, tC T, tA T, tF T, true, tO T, tP T, tK T, tB T, tQ T, tL T)
theorem tE_sSp (T : sT)  : tE (sSp T) = tE T := rfl
theorem tN_sSp (T : sT)  : tN (sSp T) = tN T := rfl
theorem tW_sSp (T : sT)  : tW (sSp T) = tW T := rfl
theorem tC_sSp (T : sT)  : tC (sSp T) = tC T := rfl
theorem tA_sSp (T : sT)  : tA (sSp T) = tA T := rfl
theorem tF_sSp (T : sT)  : tF (sSp T) = tF T := rfl
theorem tS_sSp (T : sT)  : tS (sSp T) = true := rfl
theorem tO_sSp (T : sT)  : tO (sSp T) = tO T := rfl
theorem tP_sSp (T : sT)  : tP (sSp T) = tP T := rfl
theorem tK_sSp (T : sT)  : tK (sSp T) = tK T := rfl
theorem tB_sSp (T : sT)  : tB (sSp T) = tB T := rfl
theorem tQ_sSp (T : sT)  : tQ (sSp T) = tQ T := rfl
theorem tL_sSp (T : sT)  : tL (sSp T) = tL T := rfl
def sCl (T : sT)  : sT := (tE T, tN T, tW T, tC T + 1, tA T, tF T, tS T, tO T, tP T, tK T, tB T, tQ T, tL T)
theorem tE_sCl (T : sT)  : tE (sCl T) = tE T := rfl
theorem tN_sCl (T : sT)  : tN (sCl T) = tN T := rfl
theorem tW_sCl (T : sT)  : tW (sCl T) = tW T := rfl
theorem tC_sCl (T : sT)  : tC (sCl T) = tC T + 1 := rfl
theorem tA_sCl (T : sT)  : tA (sCl T) = tA T := rfl
theorem tF_sCl (T : sT)  : tF (sCl T) = tF T := rfl
theorem tS_sCl (T : sT)  : tS (sCl T) = tS T := rfl
theorem tO_sCl (T : sT)  : tO (sCl T) = tO T := rfl
theorem tP_sCl (T : sT)  : tP (sCl T) = tP T := rfl
theorem tK_sCl (T : sT)  : tK (sCl T) = tK T := rfl
theorem tB_sCl (T : sT)  : tB (sCl T) = tB T := rfl
theorem tQ_sCl (T : sT)  : tQ (sCl T) = tQ T := rfl
theorem tL_sCl (T : sT)  : tL (sCl T) = tL T := rfl
def sAd (T : sT) (x : sE) : sT := (va_up (tE T) (tN T) x, tN T + 1, tW T, tC T, tA T, tF T, tS T, tO T, tP T, tK T, tB T, tQ T, tL T)
theorem tE_sAd (T : sT) (x : sE) : tE (sAd T x) = va_up (tE T) (tN T) x := rfl
theorem tN_sAd (T : sT) (x : sE) : tN (sAd T x) = tN T + 1 := rfl
theorem tW_sAd (T : sT) (x : sE) : tW (sAd T x) = tW T := rfl
theorem tC_sAd (T : sT) (x : sE) : tC (sAd T x) = tC T := rfl
theorem tA_sAd (T : sT) (x : sE) : tA (sAd T x) = tA T := rfl
theorem tF_sAd (T : sT) (x : sE) : tF (sAd T x) = tF T := rfl
theorem tS_sAd (T : sT) (x : sE) : tS (sAd T x) = tS T := rfl
theorem tO_sAd (T : sT) (x : sE) : tO (sAd T x) = tO T := rfl
theorem tP_sAd (T : sT) (x : sE) : tP (sAd T x) = tP T := rfl
theorem tK_sAd (T : sT) (x : sE) : tK (sAd T x) = tK T := rfl
theorem tB_sAd (T : sT) (x : sE) : tB (sAd T x) = tB T := rfl
theorem tQ_sAd (T : sT) (x : sE) : tQ (sAd T x) = tQ T := rfl
theorem tL_sAd (T : sT) (x : sE) : tL (sAd T x) = tL T := rfl
def sO (T : sT)  : sT := (tE T, tN T, tW T, tC T, tA T, tF T, tS T, tO T + 1, tP T, tK T, tB T, tQ T, tL T)
theorem tE_sO (T : sT)  : tE (sO T) = tE T := rfl
theorem tN_sO (T : sT)  : tN (sO T) = tN T := rfl
theorem tW_sO (T : sT)  : tW (sO T) = tW T := rfl
theorem tC_sO (T : sT)  : tC (sO T) = tC T := rfl
theorem tA_sO (T : sT)  : tA (sO T) = tA T := rfl
theorem tF_sO (T : sT)  : tF (sO T) = tF T := rfl
theorem tS_sO (T : sT)  : tS (sO T) = tS T := rfl
theorem tO_sO (T : sT)  : tO (sO T) = tO T + 1 := rfl
theorem tP_sO (T : sT)  : tP (sO T) = tP T := rfl
theorem tK_sO (T : sT)  : tK (sO T) = tK T := rfl
theorem tB_sO (T : sT)  : tB (sO T) = tB T := rfl
theorem tQ_sO (T : sT)  : tQ (sO T) = tQ T := rfl
theorem tL_sO (T : sT)  : tL (sO T) = tL T := rfl
def sFt (T : sT) (f : Nat) : sT := (tE T, tN T, tW T, tC T, tA T, f, tS T, tO T, tP T, tK T, tB T, tQ T, tL T)
theorem tE_sFt (T : sT) (f : Nat) : tE (sFt T f) = tE T := rfl
theorem tN_sFt (T : sT) (f : Nat) : tN (sFt T f) = tN T := rfl
theorem tW_sFt (T : sT) (f : Nat) : tW (sFt T f) = tW T := rfl
theorem tC_sFt (T : sT) (f : Nat) : tC (sFt T f) = tC T := rfl
theorem tA_sFt (T : sT) (f : Nat) : tA (sFt T f) = tA T := rfl
theorem tF_sFt (T : sT) (f : Nat) : tF (sFt T f) = f := rfl
theorem tS_sFt (T : sT) (f : Nat) : tS (sFt T f) = tS T := rfl
theorem tO_sFt (T : sT) (f : Nat) : tO (sFt T f) = tO T := rfl
theorem tP_sFt (T : sT) (f : Nat) : tP (sFt T f) = tP T := rfl
theorem tK_sFt (T : sT) (f : Nat) : tK (sFt T f) = tK T := rfl
theorem tB_sFt (T : sT) (f : Nat) : tB (sFt T f) = tB T := rfl
theorem tQ_sFt (T : sT) (f : Nat) : tQ (sFt T f) = tQ T := rfl
theorem tL_sFt (T : sT) (f : Nat) : tL (sFt T f) = tL T := rfl
def sWk (T : sT) (r : sW) : sT := (r.1, tN T, r.2.1, tC T, tA T, r.2.2, tS T, tO T, tP T, tK T, tB T, tQ T, tL T)
theorem tE_sWk (T : sT) (r : sW) : tE (sWk T r) = r.1 := rfl
theorem tN_sWk (T : sT) (r : sW) : tN (sWk T r) = tN T := rfl
theorem tW_sWk (T : sT) (r : sW) : tW (sWk T r) = r.2.1 := rfl
theorem tC_sWk (T : sT) (r : sW) : tC (sWk T r) = tC T := rfl
theorem tA_sWk (T : sT) (r : sW) : tA (sWk T r) = tA T := rfl
theorem tF_sWk (T : sT) (r : sW) : tF (sWk T r) = r.2.2 := rfl
theorem tS_sWk (T : sT) (r : sW) : tS (sWk T r) = tS T := rfl
theorem tO_sWk (T : sT) (r : sW) : tO (sWk T r) = tO T := rfl
theorem tP_sWk (T : sT) (r : sW) : tP (sWk T r) = tP T := rfl
theorem tK_sWk (T : sT) (r : sW) : tK (sWk T r) = tK T := rfl
theorem tB_sWk (T : sT) (r : sW) : tB (sWk T r) = tB T := rfl
theorem tQ_sWk (T : sT) (r : sW) : tQ (sWk T r) = tQ T := rfl
theorem tL_sWk (T : sT) (r : sW) : tL (sWk T r) = tL T := rfl
def sK (T : sT) (k : Nat) : sT := (tE T, tN T, tW T, tC T, tA T, tF T, tS T, tO T, tP T, va_up (tK T) k (tK T k + 1), tB T, tQ T, tL T)
theorem tE_sK (T : sT) (k : Nat) : tE (sK T k) = tE T := rfl
theorem tN_sK (T : sT) (k : Nat) : tN (sK T k) = tN T := rfl
theorem tW_sK (T : sT) (k : Nat) : tW (sK T k) = tW T := rfl
theorem tC_sK (T : sT) (k : Nat) : tC (sK T k) = tC T := rfl
theorem tA_sK (T : sT) (k : Nat) : tA (sK T k) = tA T := rfl
theorem tF_sK (T : sT) (k : Nat) : tF (sK T k) = tF T := rfl
theorem tS_sK (T : sT) (k : Nat) : tS (sK T k) = tS T := rfl
theorem tO_sK (T : sT) (k : Nat) : tO (sK T k) = tO T := rfl
theorem tP_sK (T : sT) (k : Nat) : tP (sK T k) = tP T := rfl
theorem tK_sK (T : sT) (k : Nat) : tK (sK T k) = va_up (tK T) k (tK T k + 1) := rfl
theorem tB_sK (T : sT) (k : Nat) : tB (sK T k) = tB T := rfl
theorem tQ_sK (T : sT) (k : Nat) : tQ (sK T k) = tQ T := rfl
theorem tL_sK (T : sT) (k : Nat) : tL (sK T k) = tL T := rfl
def sB (T : sT) (k : Nat) : sT := (tE T, tN T, tW T, tC T, tA T, tF T, tS T, tO T, tP T, tK T, va_up (tB T) k true, tQ T, tL T)
theorem tE_sB (T : sT) (k : Nat) : tE (sB T k) = tE T := rfl
theorem tN_sB (T : sT) (k : Nat) : tN (sB T k) = tN T := rfl
theorem tW_sB (T : sT) (k : Nat) : tW (sB T k) = tW T := rfl
theorem tC_sB (T : sT) (k : Nat) : tC (sB T k) = tC T := rfl
theorem tA_sB (T : sT) (k : Nat) : tA (sB T k) = tA T := rfl
theorem tF_sB (T : sT) (k : Nat) : tF (sB T k) = tF T := rfl
theorem tS_sB (T : sT) (k : Nat) : tS (sB T k) = tS T := rfl
theorem tO_sB (T : sT) (k : Nat) : tO (sB T k) = tO T := rfl
theorem tP_sB (T : sT) (k : Nat) : tP (sB T k) = tP T := rfl
theorem tK_sB (T : sT) (k : Nat) : tK (sB T k) = tK T := rfl
theorem tB_sB (T : sT) (k : Nat) : tB (sB T k) = va_up (tB T) k true := rfl
theorem tQ_sB (T : sT) (k : Nat) : tQ (sB T k) = tQ T := rfl
theorem tL_sB (T : sT) (k : Nat) : tL (sB T k) = tL T := rfl
def sQ (T : sT) (k e : Nat) : sT := (tE T, tN T, tW T, tC T, tA T, tF T, tS T, tO T, tP T, tK T, tB T, va_up (tQ T) k (some e), tL T)
theorem tE_sQ (T : sT) (k e : Nat) : tE (sQ T k e) = tE T := rfl
theorem tN_sQ (T : sT) (k e : Nat) : tN (sQ T k e) = tN T := rfl
theorem tW_sQ (T : sT) (k e : Nat) : tW (sQ T k e) = tW T := rfl
theorem tC_sQ (T : sT) (k e : Nat) : tC (sQ T k e) = tC T := rfl
theorem tA_sQ (T : sT) (k e : Nat) : tA (sQ T k e) = tA T := rfl
theorem tF_sQ (T : sT) (k e : Nat) : tF (sQ T k e) = tF T := rfl
theorem tS_sQ (T : sT) (k e : Nat) : tS (sQ T k e) = tS T := rfl
theorem tO_sQ (T : sT) (k e : Nat) : tO (sQ T k e) = tO T := rfl
theorem tP_sQ (T : sT) (k e : Nat) : tP (sQ T k e) = tP T := rfl
theorem tK_sQ (T : sT) (k e : Nat) : tK (sQ T k e) = tK T := rfl
theorem tB_sQ (T : sT) (k e : Nat) : tB (sQ T k e) = tB T := rfl
theorem tQ_sQ (T : sT) (k e : Nat) : tQ (sQ T k e) = va_up (tQ T) k (some e) := rfl
theorem tL_sQ (T : sT) (k e : Nat) : tL (sQ T k e) = tL T := rfl
def sPush (T : sT) (k e : Nat) : sT := (tE T, tN T, tW T, tC T + 1, tA T, tF T, tS T, tO T, tP T + 1, tK T, tB T, tQ T, va_up (tL T) k (e :: tL T k))
theorem tE_sPush (T : sT) (k e : Nat) : tE (sPush T k e) = tE T := rfl
theorem tN_sPush (T : sT) (k e : Nat) : tN (sPush T k e) = tN T := rfl
theorem tW_sPush (T : sT) (k e : Nat) : tW (sPush T k e) = tW T := rfl
theorem tC_sPush (T : sT) (k e : Nat) : tC (sPush T k e) = tC T + 1 := rfl
theorem tA_sPush (T : sT) (k e : Nat) : tA (sPush T k e) = tA T := rfl
theorem tF_sPush (T : sT) (k e : Nat) : tF (sPush T k e) = tF T := rfl
theorem tS_sPush (T : sT) (k e : Nat) : tS (sPush T k e) = tS T := rfl
theorem tO_sPush (T : sT) (k e : Nat) : tO (sPush T k e) = tO T := rfl
theorem tP_sPush (T : sT) (k e : Nat) : tP (sPush T k e) = tP T + 1 := rfl
theorem tK_sPush (T : sT) (k e : Nat) : tK (sPush T k e) = tK T := rfl
theorem tB_sPush (T : sT) (k e : Nat) : tB (sPush T k e) = tB T := rfl
theorem tQ_sPush (T : sT) (k e : Nat) : tQ (sPush T k e) = tQ T := rfl
theorem tL_sPush (T : sT) (k e : Nat) : tL (sPush T k e) = va_up (tL T) k (e :: tL T k) := rfl
def sPop (T : sT) (k : Nat) (r : List Nat) : sT := (tE T, tN T, tW T, tC T, tA T, tF T, tS T, tO T, tP T, tK T, tB T, tQ T, va_up (tL T) k r)
theorem tE_sPop (T : sT) (k : Nat) (r : List Nat) : tE (sPop T k r) = tE T := rfl
theorem tN_sPop (T : sT) (k : Nat) (r : List Nat) : tN (sPop T k r) = tN T := rfl
theorem tW_sPop (T : sT) (k : Nat) (r : List Nat) : tW (sPop T k r) = tW T := rfl
theorem tC_sPop (T : sT) (k : Nat) (r : List Nat) : tC (sPop T k r) = tC T := rfl
theorem tA_sPop (T : sT) (k : Nat) (r : List Nat) : tA (sPop T k r) = tA T := rfl
theorem tF_sPop (T : sT) (k : Nat) (r : List Nat) : tF (sPop T k r) = tF T := rfl
theorem tS_sPop (T : sT) (k : Nat) (r : List Nat) : tS (sPop T k r) = tS T := rfl
theorem tO_sPop (T : sT) (k : Nat) (r : List Nat) : tO (sPop T k r) = tO T := rfl
theorem tP_sPop (T : sT) (k : Nat) (r : List Nat) : tP (sPop T k r) = tP T := rfl
theorem tK_sPop (T : sT) (k : Nat) (r : List Nat) : tK (sPop T k r) = tK T := rfl
theorem tB_sPop (T : sT) (k : Nat) (r : List Nat) : tB (sPop T k r) = tB T := rfl
theorem tQ_sPop (T : sT) (k : Nat) (r : List Nat) : tQ (sPop T k r) = tQ T := rfl
theorem tL_sPop (T : sT) (k : Nat) (r : List Nat) : tL (sPop T k r) = va_up (tL T) k r := rfl
