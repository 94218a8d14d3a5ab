/-! Words and lemmas that the class's parts and the law's share. -/
def X0 : XS := (s0, none, [], [], [], -1, -1)
