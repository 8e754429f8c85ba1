/-! what a cost is (p9 to p13) -/
def gs_prc (β : Int → Int) (N p : Int) : Int := if gs_kw β N p (gs_W 92) = 1 then gs_V β N (gs_X β N p) else 0
