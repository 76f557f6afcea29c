/-- a fact kept out of sight -/
def Hd (p : Prop) : Prop := p
